/-! the reference's make -/
abbrev yHs (k : Nat) : Prop := k = 2 ∨ k = 6 ∨ k = 7 ∨ k = 8
def yNp (k : Nat) : Nat := if k = 3 ∨ k = 4 ∨ k = 6 then 2 else if k = 5 ∨ k = 7 ∨ k = 8 ∨ k = 9 then 1 else 0
theorem mHS_k : ∀ k, k ≤ 10 → (mHS (nI k) ↔ yHs k) := by unfold mHS; decide +kernel
theorem np_k : ∀ k, k ≤ 10 → (if nI k = 3 ∨ nI k = 4 ∨ nI k = 6 then (2 : Int32) else if nI k = 5 ∨ ¬ (nI k < 7 ∨ 9 < nI k) then 1 else 0) = nI (yNp k) := by unfold yNp; decide +kernel
def jA1 (k : Nat) (a b : Int32) : Int32 := if yHs k then b else a
/-- what a call of make asks for -/
def yDec (F : yF) (k a b c : Int32) (kk z p q : Nat) : Prop :=
  k = nI kk ∧ kk ≤ 10 ∧ jFits kk a ∧ (yNb kk → a = nI z) ∧ ((¬ yNb kk → z = 0) ∧ z < 2 ^ 31) ∧
  ((3 ≤ kk ∧ kk ≤ 9) → p < F.n ∧ jA1 kk a b = nI p) ∧ (¬ (3 ≤ kk ∧ kk ≤ 9) → p = 60) ∧ ((kk = 3 ∨ kk = 4 ∨ kk = 6) → q < F.n ∧ jA1 kk b c = nI q) ∧ (¬ (kk = 3 ∨ kk = 4 ∨ kk = 6) → q = 60)
theorem jFits_z {k : Nat} {a : Int32} (h : jFits k a) : ∃ z, (yNb k → a = nI z) ∧ ((¬ yNb k → z = 0) ∧ z < 2 ^ 31) := by
  by_cases e : yNb k
  · have h0 : ¬ a < 0 := by
      unfold yNb at e
      intro h2
      rcases e with e | e | e | e | e
      · exact (h.1 (Or.inl e)).1 (Int32.lt_trans h2 (by decide))
      · exact (h.2.1 (Or.inl e)).1 h2
      · exact (h.2.1 (Or.inr e)).1 h2
      · exact (h.1 (Or.inr e)).1 (Int32.lt_trans h2 (by decide))
      · exact (h.2.2 e).1 h2
    obtain ⟨z, hz, rfl⟩ := nI_of h0
    exact ⟨z, fun _ => rfl, fun h => absurd e h, hz⟩
  · exact ⟨0, fun h => absurd h e, fun _ => rfl, by omega⟩
theorem i7 (a : Int32) : (7 : Int32) < a ↔ 8 ≤ a := by
  rw [Int32.lt_iff_toInt_lt, Int32.le_iff_toInt_le, show (7 : Int32).toInt = 7 from rfl, show (8 : Int32).toInt = 8 from rfl]; omega
/-- the bounds of a fitting number -/
theorem jFits_b {k z : Nat} (hz : z < 2 ^ 31) (h : jFits k (nI z)) : ((k = 2 ∨ k = 8) → 3 ≤ z) ∧ ((k = 2 ∨ k = 6 ∨ k = 7 ∨ k = 8) → z < 8) ∧ (k = 10 → z < 4) := by
  refine ⟨fun e => ?_, fun e => ?_, fun e => ?_⟩
  · have := (h.1 e).1
    rcases Nat.lt_or_ge z 3 with h5 | h5
    · exact absurd (nI_lt h5 (by omega)) this
    · exact h5
  · have : ¬ (8 : Int32) ≤ nI z := by
      rcases e with e | e | e | e
      · exact (h.1 (Or.inl e)).2
      · exact (h.2.1 (Or.inl e)).2
      · exact (h.2.1 (Or.inr e)).2
      · exact (h.1 (Or.inr e)).2
    rcases Nat.lt_or_ge z 8 with h5 | h5
    · exact h5
    · exact absurd (nI_le (a := 8) h5 hz) this
  · have := (h.2.2 e).2
    rcases Nat.lt_or_ge z 4 with h5 | h5
    · exact h5
    · exact absurd (nI_lt (a := 3) h5 hz) this
theorem in_k {k : Int32} (h : ¬ (k < 0 ∨ 10 < k)) : ∃ kk, kk ≤ 10 ∧ k = nI kk := by
  rcases pk_ix k (n := 11) (by omega) with h1 | h1 | ⟨j, hj, e⟩
  · exact absurd (Or.inl h1) h
  · exact absurd (Or.inr (Int32.lt_of_lt_of_le (by decide : (10 : Int32) < nI 11) h1)) h
  · exact ⟨j, by omega, e⟩
theorem in_n {x : Int32} {n : Nat} (hn : n ≤ 60) : (¬ (x < 0 ∨ nI n - 1 < x)) ↔ ∃ p, p < n ∧ x = nI p := by
  constructor
  · intro h
    cases n with
    | zero =>
      exfalso
      apply h
      by_cases e : x < 0
      · exact Or.inl e
      · right
        exact Int32.lt_of_lt_of_le (by decide) (Int32.not_lt.mp e)
    | succ n =>
      rw [nI_pred] at h
      rcases pk_ix x (n := n + 1) (by omega) with h1 | h1 | h1
      · exact absurd (Or.inl h1) h
      · exact absurd (Or.inr (Int32.lt_of_lt_of_le (nI_lt (Nat.lt_succ_self n) (by omega)) h1)) h
      · exact h1
  · rintro ⟨p, hp, rfl⟩
    cases n with
    | zero => omega
    | succ n =>
      rw [nI_pred]
      rintro (h | h)
      · exact nI_pos (by omega) h
      · exact nI_nlt (a := n) (b := p) (by omega) (by omega) h
theorem np_0 : ∀ k, k ≤ 10 → (nI (yNp k) ≤ 0 ↔ ¬ (3 ≤ k ∧ k ≤ 9)) := by unfold yNp; decide +kernel
theorem np_1 : ∀ k, k ≤ 10 → (nI (yNp k) < 1 ↔ ¬ (3 ≤ k ∧ k ≤ 9)) := by unfold yNp; decide +kernel
theorem np_2 : ∀ k, k ≤ 10 → (nI (yNp k) < 2 ↔ ¬ (k = 3 ∨ k = 4 ∨ k = 6)) := by unfold yNp; decide +kernel
theorem np_3 : ∀ k, k ≤ 10 → (nI (yNp k) ≤ 1 ↔ ¬ (k = 3 ∨ k = 4 ∨ k = 6)) := by unfold yNp; decide +kernel
def zSm (g G : zM) (n : Nat) : Prop := (∀ x, (x < 28 ∨ 33 < x) → G x = g x) ∧ ∀ x i, i ≠ n → G x i = g x i
theorem zSm.rf (g : zM) (n : Nat) : zSm g g n := ⟨fun _ _ => rfl, fun _ _ _ => rfl⟩
theorem zSm.put {g G : zM} {n a : Nat} {v : Int32} (h : zSm g G n) (ha : 28 ≤ a ∧ a ≤ 33) : zSm g (zU G a n v) n := by
  refine ⟨fun x hx => by rw [zU_ne _ _ _ _ (by omega)]; exact h.1 x hx, fun x i hi => ?_⟩
  by_cases e : x = a
  · subst e; rw [zU_off _ _ _ _ hi]; exact h.2 x i hi
  · rw [zU_ne _ _ _ _ e]; exact h.2 x i hi
theorem yCd_5 {k z x y y' : Nat} (h : k = 5) : yCd k z x y = yCd k z x y' := by subst h; rfl
set_option maxHeartbeats 8000000 in
set_option maxRecDepth 20000 in
theorem sp_M_make {l : Launch} {d : Nat} {g : zM} {r : Option Value → zM → Prop} {F : yF} {k a b c : Int32} (hF : zFre g F) (hw : yFw F)
    (h1 : (¬ ∃ kk z p q, yDec F k a b c kk z p q) → r (some (.int 0)) (zU g 27 0 1))
    (h2 : ∀ kk z p q, yDec F k a b c kk z p q → (F.n = 60 ∨ 20 < 1 + nMax (F.dp p) (F.dp q)) → r (some (.int 0)) (zU g 27 0 2))
    (h3 : ∀ kk z p q, yDec F k a b c kk z p q → F.n < 60 → yReq F kk z p q → ∀ G, zFre G (F.add kk z p q) → (∀ x, (x < 27 ∨ 33 < x) → G x = g x) → (∀ j, j ≠ 0 → j ≠ 1 → G 27 j = g 27 j) → G 27 0 = 0 → r (some (.int (nI F.n))) G) : qs_M_make l (d + 4) [.ref 27, .int k, .int a, .int b, .int c] g r := by
  have hw' := hw
  obtain ⟨f1, f2⟩ := hF
  obtain ⟨w1, ⟨w2, w3, w4, w5, w6, w7⟩, w8⟩ := hw
  refine ss_M_make fun K b0 b1 b2 b3 b4 b5 b6 b7 b8 b9 b10 b11 b12 b13 b14 b15 b16 b17 b18 b19 b20 b21 b22 b23 b24 b25 b26 b27 b28 b29 b30 b31 b32 b33 => ?_
  have k14 : ∀ y5 y6 y7 y8 y9, (¬ ∃ kk z p q, yDec F k a b c kk z p q) → K 14 ([some (.ref 27), some (.int k), some (.int a), some (.int b), some (.int c), y5, y6, y7, y8, y9], [], zU g 27 0 0) := by
    intro y5 y6 y7 y8 y9 e
    refine b14 _ ?_
    simp only [bb_M_make_14, oIload, oAload, oIstore, oInc, oConst, o2, oDup, oPop, oDupX1, oDupX2, oDup2, oIf, oIfN, oCmp, oCmpN, oSwitch, oGetR, oGetI, oPutI, oPutZ, oIald, oZald, oIast, oZast, oRetI, oRetZ, oRetV, oCall, oRecv, oMax, List.map_cons, List.map_nil, List.getElem?_cons_zero, List.getElem?_cons_succ, List.set_cons_zero, List.set_cons_succ, List.length_cons, List.length_nil, List.cons_append, List.nil_append, List.append_nil, List.take_succ_cons, List.take_zero, List.drop_succ_cons, List.drop_zero, List.reverse_cons, List.reverse_nil, Option.toList, Value.category, List.sum_cons, List.sum_nil, zk_0, zk_1, zk_12, zk_20, zk_23, zk_27, zn_2, zn_3, zn_4, zn_5, zn_6, zn_7, zn_8, zn_9, zn_10, zn_11, zn_13, zn_14, zn_15, zn_16, zn_17, zn_18, zn_19, zn_21, zn_22, zn_24, zn_25, zn_26, zn_28, zn_29, zn_30, zn_31, zn_32, zn_33, zn_34, zn_35, zn_36, zn_37, zn_38, zn_39, zn_40, zn_41, zn_42, zn_43, zn_44, zn_45, zn_46, Nat.reduceAdd, Nat.reduceSub, Nat.reduceLeDiff, true_and, and_true]
    refine b15 _ ?_
    simp only [bb_M_make_15, oIload, oAload, oIstore, oInc, oConst, o2, oDup, oPop, oDupX1, oDupX2, oDup2, oIf, oIfN, oCmp, oCmpN, oSwitch, oGetR, oGetI, oPutI, oPutZ, oIald, oZald, oIast, oZast, oRetI, oRetZ, oRetV, oCall, oRecv, oMax, List.map_cons, List.map_nil, List.getElem?_cons_zero, List.getElem?_cons_succ, List.set_cons_zero, List.set_cons_succ, List.length_cons, List.length_nil, List.cons_append, List.nil_append, List.append_nil, List.take_succ_cons, List.take_zero, List.drop_succ_cons, List.drop_zero, List.reverse_cons, List.reverse_nil, Option.toList, Value.category, List.sum_cons, List.sum_nil, zk_0, zk_1, zk_12, zk_20, zk_23, zk_27, zn_2, zn_3, zn_4, zn_5, zn_6, zn_7, zn_8, zn_9, zn_10, zn_11, zn_13, zn_14, zn_15, zn_16, zn_17, zn_18, zn_19, zn_21, zn_22, zn_24, zn_25, zn_26, zn_28, zn_29, zn_30, zn_31, zn_32, zn_33, zn_34, zn_35, zn_36, zn_37, zn_38, zn_39, zn_40, zn_41, zn_42, zn_43, zn_44, zn_45, zn_46, Nat.reduceAdd, Nat.reduceSub, Nat.reduceLeDiff, true_and, and_true]
    refine ⟨fun e2 => absurd trivial e2, fun _ => ?_⟩
    refine sp_M_fail ?_
    simp only [oIload, oAload, oIstore, oInc, oConst, o2, oDup, oPop, oDupX1, oDupX2, oDup2, oIf, oIfN, oCmp, oCmpN, oSwitch, oGetR, oGetI, oPutI, oPutZ, oIald, oZald, oIast, oZast, oRetI, oRetZ, oRetV, oCall, oRecv, oMax, List.map_cons, List.map_nil, List.getElem?_cons_zero, List.getElem?_cons_succ, List.set_cons_zero, List.set_cons_succ, List.length_cons, List.length_nil, List.cons_append, List.nil_append, List.append_nil, List.take_succ_cons, List.take_zero, List.drop_succ_cons, List.drop_zero, List.reverse_cons, List.reverse_nil, Option.toList, Value.category, List.sum_cons, List.sum_nil, zk_0, zk_1, zk_12, zk_20, zk_23, zk_27, zn_2, zn_3, zn_4, zn_5, zn_6, zn_7, zn_8, zn_9, zn_10, zn_11, zn_13, zn_14, zn_15, zn_16, zn_17, zn_18, zn_19, zn_21, zn_22, zn_24, zn_25, zn_26, zn_28, zn_29, zn_30, zn_31, zn_32, zn_33, zn_34, zn_35, zn_36, zn_37, zn_38, zn_39, zn_40, zn_41, zn_42, zn_43, zn_44, zn_45, zn_46, Nat.reduceAdd, Nat.reduceSub, Nat.reduceLeDiff, true_and, and_true]
    rw [zU_UU]
    exact h1 e
  -- a kind or number that does not fit
  have kb : ∀ y5 y6 y7 y8 y9, (¬ ∃ kk z p q, yDec F k a b c kk z p q) → K 7 ([some (.ref 27), some (.int k), some (.int a), some (.int b), some (.int c), y5, y6, y7, y8, y9], [.int 0], zU g 27 0 0) := by
    intro y5 y6 y7 y8 y9 e
    have k11 : ∀ (x6 x7 : Int32) (y7 : Option Value), K 11 ([some (.ref 27), some (.int k), some (.int a), some (.int b), some (.int c), some (.int 0), some (.int x6), y7, y8, y9], [.int x7], zU g 27 0 0) := by
      intro x6 x7 y7
      refine b11 _ ?_
      simp only [bb_M_make_11, oIload, oAload, oIstore, oInc, oConst, o2, oDup, oPop, oDupX1, oDupX2, oDup2, oIf, oIfN, oCmp, oCmpN, oSwitch, oGetR, oGetI, oPutI, oPutZ, oIald, oZald, oIast, oZast, oRetI, oRetZ, oRetV, oCall, oRecv, oMax, List.map_cons, List.map_nil, List.getElem?_cons_zero, List.getElem?_cons_succ, List.set_cons_zero, List.set_cons_succ, List.length_cons, List.length_nil, List.cons_append, List.nil_append, List.append_nil, List.take_succ_cons, List.take_zero, List.drop_succ_cons, List.drop_zero, List.reverse_cons, List.reverse_nil, Option.toList, Value.category, List.sum_cons, List.sum_nil, zk_0, zk_1, zk_12, zk_20, zk_23, zk_27, zn_2, zn_3, zn_4, zn_5, zn_6, zn_7, zn_8, zn_9, zn_10, zn_11, zn_13, zn_14, zn_15, zn_16, zn_17, zn_18, zn_19, zn_21, zn_22, zn_24, zn_25, zn_26, zn_28, zn_29, zn_30, zn_31, zn_32, zn_33, zn_34, zn_35, zn_36, zn_37, zn_38, zn_39, zn_40, zn_41, zn_42, zn_43, zn_44, zn_45, zn_46, Nat.reduceAdd, Nat.reduceSub, Nat.reduceLeDiff, true_and, and_true]
      refine sp_M_parts ?_
      simp only [oIload, oAload, oIstore, oInc, oConst, o2, oDup, oPop, oDupX1, oDupX2, oDup2, oIf, oIfN, oCmp, oCmpN, oSwitch, oGetR, oGetI, oPutI, oPutZ, oIald, oZald, oIast, oZast, oRetI, oRetZ, oRetV, oCall, oRecv, oMax, List.map_cons, List.map_nil, List.getElem?_cons_zero, List.getElem?_cons_succ, List.set_cons_zero, List.set_cons_succ, List.length_cons, List.length_nil, List.cons_append, List.nil_append, List.append_nil, List.take_succ_cons, List.take_zero, List.drop_succ_cons, List.drop_zero, List.reverse_cons, List.reverse_nil, Option.toList, Value.category, List.sum_cons, List.sum_nil, zk_0, zk_1, zk_12, zk_20, zk_23, zk_27, zn_2, zn_3, zn_4, zn_5, zn_6, zn_7, zn_8, zn_9, zn_10, zn_11, zn_13, zn_14, zn_15, zn_16, zn_17, zn_18, zn_19, zn_21, zn_22, zn_24, zn_25, zn_26, zn_28, zn_29, zn_30, zn_31, zn_32, zn_33, zn_34, zn_35, zn_36, zn_37, zn_38, zn_39, zn_40, zn_41, zn_42, zn_43, zn_44, zn_45, zn_46, Nat.reduceAdd, Nat.reduceSub, Nat.reduceLeDiff, true_and, and_true]
      exact ⟨fun _ => k14 _ _ _ _ _ e, fun e2 => absurd trivial e2⟩
    have k9 : ∀ x6 : Int32, K 9 ([some (.ref 27), some (.int k), some (.int a), some (.int b), some (.int c), some (.int 0), y6, y7, y8, y9], [.int x6], zU g 27 0 0) := by
      intro x6
      refine b9 _ ?_
      simp only [bb_M_make_9, oIload, oAload, oIstore, oInc, oConst, o2, oDup, oPop, oDupX1, oDupX2, oDup2, oIf, oIfN, oCmp, oCmpN, oSwitch, oGetR, oGetI, oPutI, oPutZ, oIald, oZald, oIast, oZast, oRetI, oRetZ, oRetV, oCall, oRecv, oMax, List.map_cons, List.map_nil, List.getElem?_cons_zero, List.getElem?_cons_succ, List.set_cons_zero, List.set_cons_succ, List.length_cons, List.length_nil, List.cons_append, List.nil_append, List.append_nil, List.take_succ_cons, List.take_zero, List.drop_succ_cons, List.drop_zero, List.reverse_cons, List.reverse_nil, Option.toList, Value.category, List.sum_cons, List.sum_nil, zk_0, zk_1, zk_12, zk_20, zk_23, zk_27, zn_2, zn_3, zn_4, zn_5, zn_6, zn_7, zn_8, zn_9, zn_10, zn_11, zn_13, zn_14, zn_15, zn_16, zn_17, zn_18, zn_19, zn_21, zn_22, zn_24, zn_25, zn_26, zn_28, zn_29, zn_30, zn_31, zn_32, zn_33, zn_34, zn_35, zn_36, zn_37, zn_38, zn_39, zn_40, zn_41, zn_42, zn_43, zn_44, zn_45, zn_46, Nat.reduceAdd, Nat.reduceSub, Nat.reduceLeDiff, true_and, and_true]
      refine sp_M_hasSignal (fun _ => ?_) (fun _ => ?_)
      · simp only [oIload, oAload, oIstore, oInc, oConst, o2, oDup, oPop, oDupX1, oDupX2, oDup2, oIf, oIfN, oCmp, oCmpN, oSwitch, oGetR, oGetI, oPutI, oPutZ, oIald, oZald, oIast, oZast, oRetI, oRetZ, oRetV, oCall, oRecv, oMax, List.map_cons, List.map_nil, List.getElem?_cons_zero, List.getElem?_cons_succ, List.set_cons_zero, List.set_cons_succ, List.length_cons, List.length_nil, List.cons_append, List.nil_append, List.append_nil, List.take_succ_cons, List.take_zero, List.drop_succ_cons, List.drop_zero, List.reverse_cons, List.reverse_nil, Option.toList, Value.category, List.sum_cons, List.sum_nil, zk_0, zk_1, zk_12, zk_20, zk_23, zk_27, zn_2, zn_3, zn_4, zn_5, zn_6, zn_7, zn_8, zn_9, zn_10, zn_11, zn_13, zn_14, zn_15, zn_16, zn_17, zn_18, zn_19, zn_21, zn_22, zn_24, zn_25, zn_26, zn_28, zn_29, zn_30, zn_31, zn_32, zn_33, zn_34, zn_35, zn_36, zn_37, zn_38, zn_39, zn_40, zn_41, zn_42, zn_43, zn_44, zn_45, zn_46, Nat.reduceAdd, Nat.reduceSub, Nat.reduceLeDiff, true_and, and_true]
        exact ⟨fun e2 => absurd e2 (by decide), fun _ => k11 _ _ _⟩
      · simp only [oIload, oAload, oIstore, oInc, oConst, o2, oDup, oPop, oDupX1, oDupX2, oDup2, oIf, oIfN, oCmp, oCmpN, oSwitch, oGetR, oGetI, oPutI, oPutZ, oIald, oZald, oIast, oZast, oRetI, oRetZ, oRetV, oCall, oRecv, oMax, List.map_cons, List.map_nil, List.getElem?_cons_zero, List.getElem?_cons_succ, List.set_cons_zero, List.set_cons_succ, List.length_cons, List.length_nil, List.cons_append, List.nil_append, List.append_nil, List.take_succ_cons, List.take_zero, List.drop_succ_cons, List.drop_zero, List.reverse_cons, List.reverse_nil, Option.toList, Value.category, List.sum_cons, List.sum_nil, zk_0, zk_1, zk_12, zk_20, zk_23, zk_27, zn_2, zn_3, zn_4, zn_5, zn_6, zn_7, zn_8, zn_9, zn_10, zn_11, zn_13, zn_14, zn_15, zn_16, zn_17, zn_18, zn_19, zn_21, zn_22, zn_24, zn_25, zn_26, zn_28, zn_29, zn_30, zn_31, zn_32, zn_33, zn_34, zn_35, zn_36, zn_37, zn_38, zn_39, zn_40, zn_41, zn_42, zn_43, zn_44, zn_45, zn_46, Nat.reduceAdd, Nat.reduceSub, Nat.reduceLeDiff, true_and, and_true]
        refine ⟨fun _ => b10 _ ?_, fun e2 => absurd trivial e2⟩
        simp only [bb_M_make_10, oIload, oAload, oIstore, oInc, oConst, o2, oDup, oPop, oDupX1, oDupX2, oDup2, oIf, oIfN, oCmp, oCmpN, oSwitch, oGetR, oGetI, oPutI, oPutZ, oIald, oZald, oIast, oZast, oRetI, oRetZ, oRetV, oCall, oRecv, oMax, List.map_cons, List.map_nil, List.getElem?_cons_zero, List.getElem?_cons_succ, List.set_cons_zero, List.set_cons_succ, List.length_cons, List.length_nil, List.cons_append, List.nil_append, List.append_nil, List.take_succ_cons, List.take_zero, List.drop_succ_cons, List.drop_zero, List.reverse_cons, List.reverse_nil, Option.toList, Value.category, List.sum_cons, List.sum_nil, zk_0, zk_1, zk_12, zk_20, zk_23, zk_27, zn_2, zn_3, zn_4, zn_5, zn_6, zn_7, zn_8, zn_9, zn_10, zn_11, zn_13, zn_14, zn_15, zn_16, zn_17, zn_18, zn_19, zn_21, zn_22, zn_24, zn_25, zn_26, zn_28, zn_29, zn_30, zn_31, zn_32, zn_33, zn_34, zn_35, zn_36, zn_37, zn_38, zn_39, zn_40, zn_41, zn_42, zn_43, zn_44, zn_45, zn_46, Nat.reduceAdd, Nat.reduceSub, Nat.reduceLeDiff, true_and, and_true]
        exact k11 _ _ _
    refine b7 _ ?_
    simp only [bb_M_make_7, oIload, oAload, oIstore, oInc, oConst, o2, oDup, oPop, oDupX1, oDupX2, oDup2, oIf, oIfN, oCmp, oCmpN, oSwitch, oGetR, oGetI, oPutI, oPutZ, oIald, oZald, oIast, oZast, oRetI, oRetZ, oRetV, oCall, oRecv, oMax, List.map_cons, List.map_nil, List.getElem?_cons_zero, List.getElem?_cons_succ, List.set_cons_zero, List.set_cons_succ, List.length_cons, List.length_nil, List.cons_append, List.nil_append, List.append_nil, List.take_succ_cons, List.take_zero, List.drop_succ_cons, List.drop_zero, List.reverse_cons, List.reverse_nil, Option.toList, Value.category, List.sum_cons, List.sum_nil, zk_0, zk_1, zk_12, zk_20, zk_23, zk_27, zn_2, zn_3, zn_4, zn_5, zn_6, zn_7, zn_8, zn_9, zn_10, zn_11, zn_13, zn_14, zn_15, zn_16, zn_17, zn_18, zn_19, zn_21, zn_22, zn_24, zn_25, zn_26, zn_28, zn_29, zn_30, zn_31, zn_32, zn_33, zn_34, zn_35, zn_36, zn_37, zn_38, zn_39, zn_40, zn_41, zn_42, zn_43, zn_44, zn_45, zn_46, Nat.reduceAdd, Nat.reduceSub, Nat.reduceLeDiff, true_and, and_true]
    refine sp_M_hasSignal (fun _ => ?_) (fun _ => ?_)
    · simp only [oIload, oAload, oIstore, oInc, oConst, o2, oDup, oPop, oDupX1, oDupX2, oDup2, oIf, oIfN, oCmp, oCmpN, oSwitch, oGetR, oGetI, oPutI, oPutZ, oIald, oZald, oIast, oZast, oRetI, oRetZ, oRetV, oCall, oRecv, oMax, List.map_cons, List.map_nil, List.getElem?_cons_zero, List.getElem?_cons_succ, List.set_cons_zero, List.set_cons_succ, List.length_cons, List.length_nil, List.cons_append, List.nil_append, List.append_nil, List.take_succ_cons, List.take_zero, List.drop_succ_cons, List.drop_zero, List.reverse_cons, List.reverse_nil, Option.toList, Value.category, List.sum_cons, List.sum_nil, zk_0, zk_1, zk_12, zk_20, zk_23, zk_27, zn_2, zn_3, zn_4, zn_5, zn_6, zn_7, zn_8, zn_9, zn_10, zn_11, zn_13, zn_14, zn_15, zn_16, zn_17, zn_18, zn_19, zn_21, zn_22, zn_24, zn_25, zn_26, zn_28, zn_29, zn_30, zn_31, zn_32, zn_33, zn_34, zn_35, zn_36, zn_37, zn_38, zn_39, zn_40, zn_41, zn_42, zn_43, zn_44, zn_45, zn_46, Nat.reduceAdd, Nat.reduceSub, Nat.reduceLeDiff, true_and, and_true]
      exact ⟨fun e2 => absurd e2 (by decide), fun _ => k9 _⟩
    · simp only [oIload, oAload, oIstore, oInc, oConst, o2, oDup, oPop, oDupX1, oDupX2, oDup2, oIf, oIfN, oCmp, oCmpN, oSwitch, oGetR, oGetI, oPutI, oPutZ, oIald, oZald, oIast, oZast, oRetI, oRetZ, oRetV, oCall, oRecv, oMax, List.map_cons, List.map_nil, List.getElem?_cons_zero, List.getElem?_cons_succ, List.set_cons_zero, List.set_cons_succ, List.length_cons, List.length_nil, List.cons_append, List.nil_append, List.append_nil, List.take_succ_cons, List.take_zero, List.drop_succ_cons, List.drop_zero, List.reverse_cons, List.reverse_nil, Option.toList, Value.category, List.sum_cons, List.sum_nil, zk_0, zk_1, zk_12, zk_20, zk_23, zk_27, zn_2, zn_3, zn_4, zn_5, zn_6, zn_7, zn_8, zn_9, zn_10, zn_11, zn_13, zn_14, zn_15, zn_16, zn_17, zn_18, zn_19, zn_21, zn_22, zn_24, zn_25, zn_26, zn_28, zn_29, zn_30, zn_31, zn_32, zn_33, zn_34, zn_35, zn_36, zn_37, zn_38, zn_39, zn_40, zn_41, zn_42, zn_43, zn_44, zn_45, zn_46, Nat.reduceAdd, Nat.reduceSub, Nat.reduceLeDiff, true_and, and_true]
      refine ⟨fun _ => b8 _ ?_, fun e2 => absurd trivial e2⟩
      simp only [bb_M_make_8, oIload, oAload, oIstore, oInc, oConst, o2, oDup, oPop, oDupX1, oDupX2, oDup2, oIf, oIfN, oCmp, oCmpN, oSwitch, oGetR, oGetI, oPutI, oPutZ, oIald, oZald, oIast, oZast, oRetI, oRetZ, oRetV, oCall, oRecv, oMax, List.map_cons, List.map_nil, List.getElem?_cons_zero, List.getElem?_cons_succ, List.set_cons_zero, List.set_cons_succ, List.length_cons, List.length_nil, List.cons_append, List.nil_append, List.append_nil, List.take_succ_cons, List.take_zero, List.drop_succ_cons, List.drop_zero, List.reverse_cons, List.reverse_nil, Option.toList, Value.category, List.sum_cons, List.sum_nil, zk_0, zk_1, zk_12, zk_20, zk_23, zk_27, zn_2, zn_3, zn_4, zn_5, zn_6, zn_7, zn_8, zn_9, zn_10, zn_11, zn_13, zn_14, zn_15, zn_16, zn_17, zn_18, zn_19, zn_21, zn_22, zn_24, zn_25, zn_26, zn_28, zn_29, zn_30, zn_31, zn_32, zn_33, zn_34, zn_35, zn_36, zn_37, zn_38, zn_39, zn_40, zn_41, zn_42, zn_43, zn_44, zn_45, zn_46, Nat.reduceAdd, Nat.reduceSub, Nat.reduceLeDiff, true_and, and_true]
      exact k9 _
  -- a kind with a number that fits
  have kg : ∀ kk z y5 y6 y7 y8 y9, k = nI kk → kk ≤ 10 → jFits kk a → (yNb kk → a = nI z) → ((¬ yNb kk → z = 0) ∧ z < 2 ^ 31) → K 7 ([some (.ref 27), some (.int k), some (.int a), some (.int b), some (.int c), y5, y6, y7, y8, y9], [.int 1], zU g 27 0 0) := by
    intro kk z y5 y6 y7 y8 y9 hk hk2 hfit hz1 hz2
    subst hk
    have g27 : zU g 27 0 0 27 1 = nI F.n := by rw [zU_off _ _ _ _ (by omega)]; exact f1
    have k16 : ∀ (p q : Nat) (x6 x7 : Int32) (y9 : Option Value), yDec F (nI kk) a b c kk z p q → (3 ≤ kk ∧ kk ≤ 9 → x6 = nI p) → ((kk = 3 ∨ kk = 4 ∨ kk = 6) → x7 = nI q) → K 16 ([some (.ref 27), some (.int (nI kk)), some (.int a), some (.int b), some (.int c), some (.int 1), some (.int x6), some (.int x7), some (.int (nI (yNp kk))), y9], [], zU g 27 0 0) := by
      intro p q x6 x7 y9 hd hx6 hx7
      have hd' := hd
      obtain ⟨-, -, -, -, -, d6, d7, d8, d9⟩ := hd
      have hp : p < F.n ∨ p = 60 := by
        by_cases e : 3 ≤ kk ∧ kk ≤ 9
        · exact Or.inl (d6 e).1
        · exact Or.inr (d7 e)
      have hq : q < F.n ∨ q = 60 := by
        by_cases e : kk = 3 ∨ kk = 4 ∨ kk = 6
        · exact Or.inl (d8 e).1
        · exact Or.inr (d9 e)
      have dpl : ∀ {x}, (x < F.n ∨ x = 60) → F.dp x ≤ 20 := by
        rintro x (h | rfl)
        · exact (w8 x h).2.2.2.2.2.2.2.2.2.2.2.1
        · rw [w3]; omega
      have cdl : ∀ {x}, (x < F.n ∨ x = 60) → F.cd x < 64 := by
        rintro x (h | rfl)
        · exact (w8 x h).2.2.2.2.2.2.2.2.2.1
        · rw [w2]; omega
      have dp1 := dpl hp
      have dp2 := dpl hq
      have k21 : ∀ y9, (F.n = 60 ∨ 20 < 1 + nMax (F.dp p) (F.dp q)) → K 21 ([some (.ref 27), some (.int (nI kk)), some (.int a), some (.int b), some (.int c), some (.int 1), some (.int x6), some (.int x7), some (.int (nI (yNp kk))), y9], [], zU g 27 0 0) := by
        intro y9 e
        refine b21 _ ?_
        simp only [bb_M_make_21, oIload, oAload, oIstore, oInc, oConst, o2, oDup, oPop, oDupX1, oDupX2, oDup2, oIf, oIfN, oCmp, oCmpN, oSwitch, oGetR, oGetI, oPutI, oPutZ, oIald, oZald, oIast, oZast, oRetI, oRetZ, oRetV, oCall, oRecv, oMax, List.map_cons, List.map_nil, List.getElem?_cons_zero, List.getElem?_cons_succ, List.set_cons_zero, List.set_cons_succ, List.length_cons, List.length_nil, List.cons_append, List.nil_append, List.append_nil, List.take_succ_cons, List.take_zero, List.drop_succ_cons, List.drop_zero, List.reverse_cons, List.reverse_nil, Option.toList, Value.category, List.sum_cons, List.sum_nil, zk_0, zk_1, zk_12, zk_20, zk_23, zk_27, zn_2, zn_3, zn_4, zn_5, zn_6, zn_7, zn_8, zn_9, zn_10, zn_11, zn_13, zn_14, zn_15, zn_16, zn_17, zn_18, zn_19, zn_21, zn_22, zn_24, zn_25, zn_26, zn_28, zn_29, zn_30, zn_31, zn_32, zn_33, zn_34, zn_35, zn_36, zn_37, zn_38, zn_39, zn_40, zn_41, zn_42, zn_43, zn_44, zn_45, zn_46, Nat.reduceAdd, Nat.reduceSub, Nat.reduceLeDiff, true_and, and_true]
        refine sp_M_fail ?_
        simp only [oIload, oAload, oIstore, oInc, oConst, o2, oDup, oPop, oDupX1, oDupX2, oDup2, oIf, oIfN, oCmp, oCmpN, oSwitch, oGetR, oGetI, oPutI, oPutZ, oIald, oZald, oIast, oZast, oRetI, oRetZ, oRetV, oCall, oRecv, oMax, List.map_cons, List.map_nil, List.getElem?_cons_zero, List.getElem?_cons_succ, List.set_cons_zero, List.set_cons_succ, List.length_cons, List.length_nil, List.cons_append, List.nil_append, List.append_nil, List.take_succ_cons, List.take_zero, List.drop_succ_cons, List.drop_zero, List.reverse_cons, List.reverse_nil, Option.toList, Value.category, List.sum_cons, List.sum_nil, zk_0, zk_1, zk_12, zk_20, zk_23, zk_27, zn_2, zn_3, zn_4, zn_5, zn_6, zn_7, zn_8, zn_9, zn_10, zn_11, zn_13, zn_14, zn_15, zn_16, zn_17, zn_18, zn_19, zn_21, zn_22, zn_24, zn_25, zn_26, zn_28, zn_29, zn_30, zn_31, zn_32, zn_33, zn_34, zn_35, zn_36, zn_37, zn_38, zn_39, zn_40, zn_41, zn_42, zn_43, zn_44, zn_45, zn_46, Nat.reduceAdd, Nat.reduceSub, Nat.reduceLeDiff, true_and, and_true]
        rw [zU_UU]
        exact h2 kk z p q hd' e
      have k22 : F.n < 60 → 1 + nMax (F.dp p) (F.dp q) ≤ 20 → K 22 ([some (.ref 27), some (.int (nI kk)), some (.int a), some (.int b), some (.int c), some (.int 1), some (.int x6), some (.int x7), some (.int (nI (yNp kk))), some (.int (nI (1 + nMax (F.dp p) (F.dp q))))], [], zU g 27 0 0) := by
        intro hn hdp
        have hreq : yReq F kk z p q := by
          refine ⟨hk2, ?_, ?_, ?_, fun e => (d6 e).1, d7, fun e => (d8 e).1, d9, hdp⟩
          · intro e
            have e2 : yNb kk := by unfold yNb; omega
            rw [hz1 e2] at hfit
            exact (jFits_b hz2.2 hfit).1 e
          · intro e
            have e2 : yNb kk := by unfold yNb; omega
            rw [hz1 e2] at hfit
            exact (jFits_b hz2.2 hfit).2.1 e
          · intro e
            have e2 : yNb kk := by unfold yNb; omega
            rw [hz1 e2] at hfit
            exact (jFits_b hz2.2 hfit).2.2 e
        generalize hg0 : zU g 27 0 0 = g0 at g27 ⊢
        have t33 : ∀ {x}, x < F.n → g0 33 x = nI (F.cd x) := fun hx => by rw [← hg0, zU_ne _ _ _ _ (by omega)]; exact (f2 _ hx).2.2.2.2.2
        have k33 : ∀ G, zSm g0 G F.n → G 28 F.n = nI kk → (yNb kk → G 29 F.n = a) → ((3 ≤ kk ∧ kk ≤ 9) → G 30 F.n = nI p) → ((kk = 3 ∨ kk = 4 ∨ kk = 6) → G 31 F.n = nI q) → G 32 F.n = nI (1 + nMax (F.dp p) (F.dp q)) → K 33 ([some (.ref 27), some (.int (nI kk)), some (.int a), some (.int b), some (.int c), some (.int 1), some (.int x6), some (.int x7), some (.int (nI (yNp kk))), some (.int (nI (1 + nMax (F.dp p) (F.dp q))))], [.int (nI (F.cd q)), .int (nI (F.cd p)), .int a, .int (nI kk), .int (nI F.n), .ref 33], G) := by
          intro G s1 v28 v29 v30 v31 v32
          refine b33 _ ?_
          simp only [bb_M_make_33, oIload, oAload, oIstore, oInc, oConst, o2, oDup, oPop, oDupX1, oDupX2, oDup2, oIf, oIfN, oCmp, oCmpN, oSwitch, oGetR, oGetI, oPutI, oPutZ, oIald, oZald, oIast, oZast, oRetI, oRetZ, oRetV, oCall, oRecv, oMax, List.map_cons, List.map_nil, List.getElem?_cons_zero, List.getElem?_cons_succ, List.set_cons_zero, List.set_cons_succ, List.length_cons, List.length_nil, List.cons_append, List.nil_append, List.append_nil, List.take_succ_cons, List.take_zero, List.drop_succ_cons, List.drop_zero, List.reverse_cons, List.reverse_nil, Option.toList, Value.category, List.sum_cons, List.sum_nil, zk_0, zk_1, zk_12, zk_20, zk_23, zk_27, zn_2, zn_3, zn_4, zn_5, zn_6, zn_7, zn_8, zn_9, zn_10, zn_11, zn_13, zn_14, zn_15, zn_16, zn_17, zn_18, zn_19, zn_21, zn_22, zn_24, zn_25, zn_26, zn_28, zn_29, zn_30, zn_31, zn_32, zn_33, zn_34, zn_35, zn_36, zn_37, zn_38, zn_39, zn_40, zn_41, zn_42, zn_43, zn_44, zn_45, zn_46, Nat.reduceAdd, Nat.reduceSub, Nat.reduceLeDiff, true_and, and_true]
          refine sp_M_answers ?_
          simp only [oIload, oAload, oIstore, oInc, oConst, o2, oDup, oPop, oDupX1, oDupX2, oDup2, oIf, oIfN, oCmp, oCmpN, oSwitch, oGetR, oGetI, oPutI, oPutZ, oIald, oZald, oIast, oZast, oRetI, oRetZ, oRetV, oCall, oRecv, oMax, List.map_cons, List.map_nil, List.getElem?_cons_zero, List.getElem?_cons_succ, List.set_cons_zero, List.set_cons_succ, List.length_cons, List.length_nil, List.cons_append, List.nil_append, List.append_nil, List.take_succ_cons, List.take_zero, List.drop_succ_cons, List.drop_zero, List.reverse_cons, List.reverse_nil, Option.toList, Value.category, List.sum_cons, List.sum_nil, zk_0, zk_1, zk_12, zk_20, zk_23, zk_27, zn_2, zn_3, zn_4, zn_5, zn_6, zn_7, zn_8, zn_9, zn_10, zn_11, zn_13, zn_14, zn_15, zn_16, zn_17, zn_18, zn_19, zn_21, zn_22, zn_24, zn_25, zn_26, zn_28, zn_29, zn_30, zn_31, zn_32, zn_33, zn_34, zn_35, zn_36, zn_37, zn_38, zn_39, zn_40, zn_41, zn_42, zn_43, zn_44, zn_45, zn_46, Nat.reduceAdd, Nat.reduceSub, Nat.reduceLeDiff, true_and, and_true]
          have ea : jAns (nI kk) a (nI (F.cd p)) (nI (F.cd q)) = nI (yCd kk z (F.cd p) (F.cd (ySec kk p q))) := by
            rw [jAns_eq hk2 (cdl hp) (cdl hq), jCodes_z (y' := nI z) hk2 (fun e => hz1 (Or.inr (Or.inr (Or.inr (Or.inr e))))), (jCodes_lt hk2 hreq.2.2.2.1 (cdl hp) (cdl hq)).1]
            by_cases e5 : kk = 5
            · rw [yCd_5 e5]
            · rw [show ySec kk p q = q from if_neg e5]
          rw [ea]
          refine ⟨F.n, rfl, by omega, ?_⟩
          have s2 := s1.put (a := 33) (v := nI (yCd kk z (F.cd p) (F.cd (ySec kk p q)))) (by omega)
          have e271 : zU G 33 F.n (nI (yCd kk z (F.cd p) (F.cd (ySec kk p q)))) 27 1 = nI F.n := by rw [s2.1 27 (by omega), g27]
          rw [e271, nI_1]
          have e272 : ∀ G' : zM, zU G' 27 1 (nI (F.n + 1)) 27 1 - 1 = nI F.n := fun G' => by rw [zU_at, nI_pred]
          rw [e272]
          refine h3 kk z p q hd' hn hreq _ ⟨zU_at _ _ _ _, fun i hi => ?_⟩ (fun x hx => ?_) (fun j j0 j1 => ?_) ?_
          · rcases Nat.lt_or_ge i F.n with hi2 | hi2
            · have hne : i ≠ F.n := by omega
              have := f2 i hi2
              have t : ∀ x, x ≠ 27 → zU (zU G 33 F.n (nI (yCd kk z (F.cd p) (F.cd (ySec kk p q))))) 27 1 (nI (F.n + 1)) x i = g x i := fun x hx => by
                rw [zU_ne _ _ _ _ hx, s2.2 x i hne, ← hg0, zU_ne _ _ _ _ hx]
              simp only [yF.add, yF.kd, yF.nm, yF.fi, yF.se, yF.cd, yF.dp, yF.cp, yF.ps, yF.mt, yF.nv, yF.n] at this hne t ⊢
              simp only [yPut_ne _ _ hne, t 28 (by omega), t 29 (by omega), t 30 (by omega), t 31 (by omega), t 32 (by omega), t 33 (by omega)]
              exact this
            · obtain rfl : i = F.n := by have : i < F.n + 1 := hi; omega
              have t : ∀ x, x ≠ 27 → x ≠ 33 → zU (zU G 33 F.n (nI (yCd kk z (F.cd p) (F.cd (ySec kk p q))))) 27 1 (nI (F.n + 1)) x F.n = G x F.n := fun x hx h33 => by
                rw [zU_ne _ _ _ _ hx, zU_ne _ _ _ _ h33]
              have t33' : zU (zU G 33 F.n (nI (yCd kk z (F.cd p) (F.cd (ySec kk p q))))) 27 1 (nI (F.n + 1)) 33 F.n = nI (yCd kk z (F.cd p) (F.cd (ySec kk p q))) := by
                rw [zU_ne _ _ _ _ (by omega), zU_at]
              have ks : (kk = 3 ∨ kk = 4 ∨ kk = 6) → ySec kk p q = q := fun e => if_neg (by omega)
              simp only [yF.add, yF.kd, yF.nm, yF.fi, yF.se, yF.cd, yF.dp, yF.cp, yF.ps, yF.mt, yF.nv, yF.n] at t t33' v28 v29 v30 v31 v32 ⊢
              simp only [yPut_at, t 28 (by omega) (by omega), t 29 (by omega) (by omega), t 30 (by omega) (by omega), t 31 (by omega) (by omega), t 32 (by omega) (by omega)]
              exact ⟨v28, fun e => by rw [v29 e]; exact hz1 e, v30, fun e => by rw [ks e]; exact v31 e, v32, t33'⟩
          · rw [zU_ne _ _ _ _ (by omega), s2.1 x (by omega), ← hg0, zU_ne _ _ _ _ (by omega)]
          · rw [zU_off _ _ _ _ j1, s2.1 27 (by omega), ← hg0, zU_off _ _ _ _ j0]
          · rw [zU_off _ _ _ _ (by omega), s2.1 27 (by omega), ← hg0, zU_at]
        have k31 : ∀ G, zSm g0 G F.n → G 28 F.n = nI kk → (yNb kk → G 29 F.n = a) → ((3 ≤ kk ∧ kk ≤ 9) → G 30 F.n = nI p) → ((kk = 3 ∨ kk = 4 ∨ kk = 6) → G 31 F.n = nI q) → G 32 F.n = nI (1 + nMax (F.dp p) (F.dp q)) → K 31 ([some (.ref 27), some (.int (nI kk)), some (.int a), some (.int b), some (.int c), some (.int 1), some (.int x6), some (.int x7), some (.int (nI (yNp kk))), some (.int (nI (1 + nMax (F.dp p) (F.dp q))))], [.int (nI (F.cd p)), .int a, .int (nI kk), .int (nI F.n), .ref 33], G) := by
          intro G s1 v28 v29 v30 v31 v32
          have k33' := k33 G s1 v28 v29 v30 v31 v32
          refine b31 _ ?_
          simp only [bb_M_make_31, oIload, oAload, oIstore, oInc, oConst, o2, oDup, oPop, oDupX1, oDupX2, oDup2, oIf, oIfN, oCmp, oCmpN, oSwitch, oGetR, oGetI, oPutI, oPutZ, oIald, oZald, oIast, oZast, oRetI, oRetZ, oRetV, oCall, oRecv, oMax, List.map_cons, List.map_nil, List.getElem?_cons_zero, List.getElem?_cons_succ, List.set_cons_zero, List.set_cons_succ, List.length_cons, List.length_nil, List.cons_append, List.nil_append, List.append_nil, List.take_succ_cons, List.take_zero, List.drop_succ_cons, List.drop_zero, List.reverse_cons, List.reverse_nil, Option.toList, Value.category, List.sum_cons, List.sum_nil, zk_0, zk_1, zk_12, zk_20, zk_23, zk_27, zn_2, zn_3, zn_4, zn_5, zn_6, zn_7, zn_8, zn_9, zn_10, zn_11, zn_13, zn_14, zn_15, zn_16, zn_17, zn_18, zn_19, zn_21, zn_22, zn_24, zn_25, zn_26, zn_28, zn_29, zn_30, zn_31, zn_32, zn_33, zn_34, zn_35, zn_36, zn_37, zn_38, zn_39, zn_40, zn_41, zn_42, zn_43, zn_44, zn_45, zn_46, Nat.reduceAdd, Nat.reduceSub, Nat.reduceLeDiff, true_and, and_true]
          rw [np_3 kk hk2]
          refine ⟨fun e => b32 _ ?_, fun e => ?_⟩
          · simp only [bb_M_make_32, oIload, oAload, oIstore, oInc, oConst, o2, oDup, oPop, oDupX1, oDupX2, oDup2, oIf, oIfN, oCmp, oCmpN, oSwitch, oGetR, oGetI, oPutI, oPutZ, oIald, oZald, oIast, oZast, oRetI, oRetZ, oRetV, oCall, oRecv, oMax, List.map_cons, List.map_nil, List.getElem?_cons_zero, List.getElem?_cons_succ, List.set_cons_zero, List.set_cons_succ, List.length_cons, List.length_nil, List.cons_append, List.nil_append, List.append_nil, List.take_succ_cons, List.take_zero, List.drop_succ_cons, List.drop_zero, List.reverse_cons, List.reverse_nil, Option.toList, Value.category, List.sum_cons, List.sum_nil, zk_0, zk_1, zk_12, zk_20, zk_23, zk_27, zn_2, zn_3, zn_4, zn_5, zn_6, zn_7, zn_8, zn_9, zn_10, zn_11, zn_13, zn_14, zn_15, zn_16, zn_17, zn_18, zn_19, zn_21, zn_22, zn_24, zn_25, zn_26, zn_28, zn_29, zn_30, zn_31, zn_32, zn_33, zn_34, zn_35, zn_36, zn_37, zn_38, zn_39, zn_40, zn_41, zn_42, zn_43, zn_44, zn_45, zn_46, Nat.reduceAdd, Nat.reduceSub, Nat.reduceLeDiff, true_and, and_true]
            rw [show F.cd q = 0 by rw [d9 e, w2]] at k33'; exact k33'
          · have e := Classical.not_not.mp e
            obtain ⟨u1, u2⟩ := d8 e
            have ex := hx7 e
            refine ⟨q, ex, by omega, ?_⟩
            rw [s1.2 33 q (by omega), t33 u1]
            exact k33'
        have k29 : ∀ G v, zSm g0 G F.n → G 28 F.n = nI kk → (yNb kk → G 29 F.n = a) → ((3 ≤ kk ∧ kk ≤ 9) → G 30 F.n = nI p) → ((kk = 3 ∨ kk = 4 ∨ kk = 6) → v = nI q) → K 29 ([some (.ref 27), some (.int (nI kk)), some (.int a), some (.int b), some (.int c), some (.int 1), some (.int x6), some (.int x7), some (.int (nI (yNp kk))), some (.int (nI (1 + nMax (F.dp p) (F.dp q))))], [.int v, .int (nI F.n), .ref 31], G) := by
          intro G v s1 v28 v29 v30 hv
          refine b29 _ ?_
          simp only [bb_M_make_29, oIload, oAload, oIstore, oInc, oConst, o2, oDup, oPop, oDupX1, oDupX2, oDup2, oIf, oIfN, oCmp, oCmpN, oSwitch, oGetR, oGetI, oPutI, oPutZ, oIald, oZald, oIast, oZast, oRetI, oRetZ, oRetV, oCall, oRecv, oMax, List.map_cons, List.map_nil, List.getElem?_cons_zero, List.getElem?_cons_succ, List.set_cons_zero, List.set_cons_succ, List.length_cons, List.length_nil, List.cons_append, List.nil_append, List.append_nil, List.take_succ_cons, List.take_zero, List.drop_succ_cons, List.drop_zero, List.reverse_cons, List.reverse_nil, Option.toList, Value.category, List.sum_cons, List.sum_nil, zk_0, zk_1, zk_12, zk_20, zk_23, zk_27, zn_2, zn_3, zn_4, zn_5, zn_6, zn_7, zn_8, zn_9, zn_10, zn_11, zn_13, zn_14, zn_15, zn_16, zn_17, zn_18, zn_19, zn_21, zn_22, zn_24, zn_25, zn_26, zn_28, zn_29, zn_30, zn_31, zn_32, zn_33, zn_34, zn_35, zn_36, zn_37, zn_38, zn_39, zn_40, zn_41, zn_42, zn_43, zn_44, zn_45, zn_46, Nat.reduceAdd, Nat.reduceSub, Nat.reduceLeDiff, true_and, and_true]
          refine ⟨F.n, rfl, by omega, ?_⟩
          have s2 := s1.put (a := 31) (v := v) (by omega)
          rw [s2.1 27 (by omega), g27]
          refine ⟨F.n, rfl, by omega, ?_⟩
          have s3 := s2.put (a := 32) (v := nI (1 + nMax (F.dp p) (F.dp q))) (by omega)
          rw [s3.1 27 (by omega), g27]
          have k31' := k31 _ s3 (by rw [zU_ne _ _ _ _ (by omega), zU_ne _ _ _ _ (by omega)]; exact v28) (by rw [zU_ne _ _ _ _ (by omega), zU_ne _ _ _ _ (by omega)]; exact v29) (by rw [zU_ne _ _ _ _ (by omega), zU_ne _ _ _ _ (by omega)]; exact v30) (by rw [zU_ne _ _ _ _ (by omega), zU_at]; exact hv) (zU_at _ _ _ _)
          rw [np_0 kk hk2]
          refine ⟨fun e => b30 _ ?_, fun e => ?_⟩
          · simp only [bb_M_make_30, oIload, oAload, oIstore, oInc, oConst, o2, oDup, oPop, oDupX1, oDupX2, oDup2, oIf, oIfN, oCmp, oCmpN, oSwitch, oGetR, oGetI, oPutI, oPutZ, oIald, oZald, oIast, oZast, oRetI, oRetZ, oRetV, oCall, oRecv, oMax, List.map_cons, List.map_nil, List.getElem?_cons_zero, List.getElem?_cons_succ, List.set_cons_zero, List.set_cons_succ, List.length_cons, List.length_nil, List.cons_append, List.nil_append, List.append_nil, List.take_succ_cons, List.take_zero, List.drop_succ_cons, List.drop_zero, List.reverse_cons, List.reverse_nil, Option.toList, Value.category, List.sum_cons, List.sum_nil, zk_0, zk_1, zk_12, zk_20, zk_23, zk_27, zn_2, zn_3, zn_4, zn_5, zn_6, zn_7, zn_8, zn_9, zn_10, zn_11, zn_13, zn_14, zn_15, zn_16, zn_17, zn_18, zn_19, zn_21, zn_22, zn_24, zn_25, zn_26, zn_28, zn_29, zn_30, zn_31, zn_32, zn_33, zn_34, zn_35, zn_36, zn_37, zn_38, zn_39, zn_40, zn_41, zn_42, zn_43, zn_44, zn_45, zn_46, Nat.reduceAdd, Nat.reduceSub, Nat.reduceLeDiff, true_and, and_true]
            rw [show F.cd p = 0 by rw [d7 e, w2]] at k31'; exact k31'
          · have e := Classical.not_not.mp e
            obtain ⟨u1, u2⟩ := d6 e
            have ex := hx6 e
            refine ⟨p, ex, by omega, ?_⟩
            rw [s3.2 33 p (by omega), t33 u1]
            exact k31'
        have k27 : ∀ G v, zSm g0 G F.n → G 28 F.n = nI kk → (yNb kk → G 29 F.n = a) → ((3 ≤ kk ∧ kk ≤ 9) → v = nI p) → K 27 ([some (.ref 27), some (.int (nI kk)), some (.int a), some (.int b), some (.int c), some (.int 1), some (.int x6), some (.int x7), some (.int (nI (yNp kk))), some (.int (nI (1 + nMax (F.dp p) (F.dp q))))], [.int v, .int (nI F.n), .ref 30], G) := by
          intro G v s1 v28 v29 hv
          refine b27 _ ?_
          simp only [bb_M_make_27, oIload, oAload, oIstore, oInc, oConst, o2, oDup, oPop, oDupX1, oDupX2, oDup2, oIf, oIfN, oCmp, oCmpN, oSwitch, oGetR, oGetI, oPutI, oPutZ, oIald, oZald, oIast, oZast, oRetI, oRetZ, oRetV, oCall, oRecv, oMax, List.map_cons, List.map_nil, List.getElem?_cons_zero, List.getElem?_cons_succ, List.set_cons_zero, List.set_cons_succ, List.length_cons, List.length_nil, List.cons_append, List.nil_append, List.append_nil, List.take_succ_cons, List.take_zero, List.drop_succ_cons, List.drop_zero, List.reverse_cons, List.reverse_nil, Option.toList, Value.category, List.sum_cons, List.sum_nil, zk_0, zk_1, zk_12, zk_20, zk_23, zk_27, zn_2, zn_3, zn_4, zn_5, zn_6, zn_7, zn_8, zn_9, zn_10, zn_11, zn_13, zn_14, zn_15, zn_16, zn_17, zn_18, zn_19, zn_21, zn_22, zn_24, zn_25, zn_26, zn_28, zn_29, zn_30, zn_31, zn_32, zn_33, zn_34, zn_35, zn_36, zn_37, zn_38, zn_39, zn_40, zn_41, zn_42, zn_43, zn_44, zn_45, zn_46, Nat.reduceAdd, Nat.reduceSub, Nat.reduceLeDiff, true_and, and_true]
          refine ⟨F.n, rfl, by omega, ?_⟩
          have s2 := s1.put (a := 30) (v := v) (by omega)
          rw [s2.1 27 (by omega), g27]
          have k29' := fun w hw => k29 _ w s2 (by rw [zU_ne _ _ _ _ (by omega)]; exact v28) (by rw [zU_ne _ _ _ _ (by omega)]; exact v29) (by rw [zU_at]; exact hv) hw
          rw [np_3 kk hk2]
          refine ⟨fun e => b28 _ ?_, fun e => k29' _ hx7⟩
          simp only [bb_M_make_28, oIload, oAload, oIstore, oInc, oConst, o2, oDup, oPop, oDupX1, oDupX2, oDup2, oIf, oIfN, oCmp, oCmpN, oSwitch, oGetR, oGetI, oPutI, oPutZ, oIald, oZald, oIast, oZast, oRetI, oRetZ, oRetV, oCall, oRecv, oMax, List.map_cons, List.map_nil, List.getElem?_cons_zero, List.getElem?_cons_succ, List.set_cons_zero, List.set_cons_succ, List.length_cons, List.length_nil, List.cons_append, List.nil_append, List.append_nil, List.take_succ_cons, List.take_zero, List.drop_succ_cons, List.drop_zero, List.reverse_cons, List.reverse_nil, Option.toList, Value.category, List.sum_cons, List.sum_nil, zk_0, zk_1, zk_12, zk_20, zk_23, zk_27, zn_2, zn_3, zn_4, zn_5, zn_6, zn_7, zn_8, zn_9, zn_10, zn_11, zn_13, zn_14, zn_15, zn_16, zn_17, zn_18, zn_19, zn_21, zn_22, zn_24, zn_25, zn_26, zn_28, zn_29, zn_30, zn_31, zn_32, zn_33, zn_34, zn_35, zn_36, zn_37, zn_38, zn_39, zn_40, zn_41, zn_42, zn_43, zn_44, zn_45, zn_46, Nat.reduceAdd, Nat.reduceSub, Nat.reduceLeDiff, true_and, and_true]
          exact k29' _ (fun e2 => absurd e2 e)
        have k25 : ∀ G v, zSm g0 G F.n → G 28 F.n = nI kk → (yNb kk → v = a) → K 25 ([some (.ref 27), some (.int (nI kk)), some (.int a), some (.int b), some (.int c), some (.int 1), some (.int x6), some (.int x7), some (.int (nI (yNp kk))), some (.int (nI (1 + nMax (F.dp p) (F.dp q))))], [.int v, .int (nI F.n), .ref 29], G) := by
          intro G v s1 v28 hv
          refine b25 _ ?_
          simp only [bb_M_make_25, oIload, oAload, oIstore, oInc, oConst, o2, oDup, oPop, oDupX1, oDupX2, oDup2, oIf, oIfN, oCmp, oCmpN, oSwitch, oGetR, oGetI, oPutI, oPutZ, oIald, oZald, oIast, oZast, oRetI, oRetZ, oRetV, oCall, oRecv, oMax, List.map_cons, List.map_nil, List.getElem?_cons_zero, List.getElem?_cons_succ, List.set_cons_zero, List.set_cons_succ, List.length_cons, List.length_nil, List.cons_append, List.nil_append, List.append_nil, List.take_succ_cons, List.take_zero, List.drop_succ_cons, List.drop_zero, List.reverse_cons, List.reverse_nil, Option.toList, Value.category, List.sum_cons, List.sum_nil, zk_0, zk_1, zk_12, zk_20, zk_23, zk_27, zn_2, zn_3, zn_4, zn_5, zn_6, zn_7, zn_8, zn_9, zn_10, zn_11, zn_13, zn_14, zn_15, zn_16, zn_17, zn_18, zn_19, zn_21, zn_22, zn_24, zn_25, zn_26, zn_28, zn_29, zn_30, zn_31, zn_32, zn_33, zn_34, zn_35, zn_36, zn_37, zn_38, zn_39, zn_40, zn_41, zn_42, zn_43, zn_44, zn_45, zn_46, Nat.reduceAdd, Nat.reduceSub, Nat.reduceLeDiff, true_and, and_true]
          refine ⟨F.n, rfl, by omega, ?_⟩
          have s2 := s1.put (a := 29) (v := v) (by omega)
          rw [s2.1 27 (by omega), g27]
          have k27' := fun w hw => k27 _ w s2 (by rw [zU_ne _ _ _ _ (by omega)]; exact v28) (by rw [zU_at]; exact hv) hw
          rw [np_0 kk hk2]
          refine ⟨fun e => b26 _ ?_, fun e => k27' _ hx6⟩
          simp only [bb_M_make_26, oIload, oAload, oIstore, oInc, oConst, o2, oDup, oPop, oDupX1, oDupX2, oDup2, oIf, oIfN, oCmp, oCmpN, oSwitch, oGetR, oGetI, oPutI, oPutZ, oIald, oZald, oIast, oZast, oRetI, oRetZ, oRetV, oCall, oRecv, oMax, List.map_cons, List.map_nil, List.getElem?_cons_zero, List.getElem?_cons_succ, List.set_cons_zero, List.set_cons_succ, List.length_cons, List.length_nil, List.cons_append, List.nil_append, List.append_nil, List.take_succ_cons, List.take_zero, List.drop_succ_cons, List.drop_zero, List.reverse_cons, List.reverse_nil, Option.toList, Value.category, List.sum_cons, List.sum_nil, zk_0, zk_1, zk_12, zk_20, zk_23, zk_27, zn_2, zn_3, zn_4, zn_5, zn_6, zn_7, zn_8, zn_9, zn_10, zn_11, zn_13, zn_14, zn_15, zn_16, zn_17, zn_18, zn_19, zn_21, zn_22, zn_24, zn_25, zn_26, zn_28, zn_29, zn_30, zn_31, zn_32, zn_33, zn_34, zn_35, zn_36, zn_37, zn_38, zn_39, zn_40, zn_41, zn_42, zn_43, zn_44, zn_45, zn_46, Nat.reduceAdd, Nat.reduceSub, Nat.reduceLeDiff, true_and, and_true]
          exact k27' _ (fun e2 => absurd e2 e)
        refine b22 _ ?_
        simp only [bb_M_make_22, oIload, oAload, oIstore, oInc, oConst, o2, oDup, oPop, oDupX1, oDupX2, oDup2, oIf, oIfN, oCmp, oCmpN, oSwitch, oGetR, oGetI, oPutI, oPutZ, oIald, oZald, oIast, oZast, oRetI, oRetZ, oRetV, oCall, oRecv, oMax, List.map_cons, List.map_nil, List.getElem?_cons_zero, List.getElem?_cons_succ, List.set_cons_zero, List.set_cons_succ, List.length_cons, List.length_nil, List.cons_append, List.nil_append, List.append_nil, List.take_succ_cons, List.take_zero, List.drop_succ_cons, List.drop_zero, List.reverse_cons, List.reverse_nil, Option.toList, Value.category, List.sum_cons, List.sum_nil, zk_0, zk_1, zk_12, zk_20, zk_23, zk_27, zn_2, zn_3, zn_4, zn_5, zn_6, zn_7, zn_8, zn_9, zn_10, zn_11, zn_13, zn_14, zn_15, zn_16, zn_17, zn_18, zn_19, zn_21, zn_22, zn_24, zn_25, zn_26, zn_28, zn_29, zn_30, zn_31, zn_32, zn_33, zn_34, zn_35, zn_36, zn_37, zn_38, zn_39, zn_40, zn_41, zn_42, zn_43, zn_44, zn_45, zn_46, Nat.reduceAdd, Nat.reduceSub, Nat.reduceLeDiff, true_and, and_true]
        rw [g27]
        refine ⟨F.n, rfl, by omega, ?_⟩
        have s2 := (zSm.rf g0 F.n).put (a := 28) (v := nI kk) (by omega)
        rw [s2.1 27 (by omega), g27]
        have k23 : K 23 ([some (.ref 27), some (.int (nI kk)), some (.int a), some (.int b), some (.int c), some (.int 1), some (.int x6), some (.int x7), some (.int (nI (yNp kk))), some (.int (nI (1 + nMax (F.dp p) (F.dp q))))], [.int (nI F.n), .ref 29], zU g0 28 F.n (nI kk)) := by
          refine b23 _ ?_
          simp only [bb_M_make_23, oIload, oAload, oIstore, oInc, oConst, o2, oDup, oPop, oDupX1, oDupX2, oDup2, oIf, oIfN, oCmp, oCmpN, oSwitch, oGetR, oGetI, oPutI, oPutZ, oIald, oZald, oIast, oZast, oRetI, oRetZ, oRetV, oCall, oRecv, oMax, List.map_cons, List.map_nil, List.getElem?_cons_zero, List.getElem?_cons_succ, List.set_cons_zero, List.set_cons_succ, List.length_cons, List.length_nil, List.cons_append, List.nil_append, List.append_nil, List.take_succ_cons, List.take_zero, List.drop_succ_cons, List.drop_zero, List.reverse_cons, List.reverse_nil, Option.toList, Value.category, List.sum_cons, List.sum_nil, zk_0, zk_1, zk_12, zk_20, zk_23, zk_27, zn_2, zn_3, zn_4, zn_5, zn_6, zn_7, zn_8, zn_9, zn_10, zn_11, zn_13, zn_14, zn_15, zn_16, zn_17, zn_18, zn_19, zn_21, zn_22, zn_24, zn_25, zn_26, zn_28, zn_29, zn_30, zn_31, zn_32, zn_33, zn_34, zn_35, zn_36, zn_37, zn_38, zn_39, zn_40, zn_41, zn_42, zn_43, zn_44, zn_45, zn_46, Nat.reduceAdd, Nat.reduceSub, Nat.reduceLeDiff, true_and, and_true]
          exact k25 _ _ s2 (zU_at _ _ _ _) (fun _ => rfl)
        refine sp_M_hasSignal (fun e => ?_) (fun e => ?_)
        · simp only [oIload, oAload, oIstore, oInc, oConst, o2, oDup, oPop, oDupX1, oDupX2, oDup2, oIf, oIfN, oCmp, oCmpN, oSwitch, oGetR, oGetI, oPutI, oPutZ, oIald, oZald, oIast, oZast, oRetI, oRetZ, oRetV, oCall, oRecv, oMax, List.map_cons, List.map_nil, List.getElem?_cons_zero, List.getElem?_cons_succ, List.set_cons_zero, List.set_cons_succ, List.length_cons, List.length_nil, List.cons_append, List.nil_append, List.append_nil, List.take_succ_cons, List.take_zero, List.drop_succ_cons, List.drop_zero, List.reverse_cons, List.reverse_nil, Option.toList, Value.category, List.sum_cons, List.sum_nil, zk_0, zk_1, zk_12, zk_20, zk_23, zk_27, zn_2, zn_3, zn_4, zn_5, zn_6, zn_7, zn_8, zn_9, zn_10, zn_11, zn_13, zn_14, zn_15, zn_16, zn_17, zn_18, zn_19, zn_21, zn_22, zn_24, zn_25, zn_26, zn_28, zn_29, zn_30, zn_31, zn_32, zn_33, zn_34, zn_35, zn_36, zn_37, zn_38, zn_39, zn_40, zn_41, zn_42, zn_43, zn_44, zn_45, zn_46, Nat.reduceAdd, Nat.reduceSub, Nat.reduceLeDiff, true_and, and_true]
          exact ⟨fun _ => k23, fun e2 => absurd e2 (by decide)⟩
        · simp only [oIload, oAload, oIstore, oInc, oConst, o2, oDup, oPop, oDupX1, oDupX2, oDup2, oIf, oIfN, oCmp, oCmpN, oSwitch, oGetR, oGetI, oPutI, oPutZ, oIald, oZald, oIast, oZast, oRetI, oRetZ, oRetV, oCall, oRecv, oMax, List.map_cons, List.map_nil, List.getElem?_cons_zero, List.getElem?_cons_succ, List.set_cons_zero, List.set_cons_succ, List.length_cons, List.length_nil, List.cons_append, List.nil_append, List.append_nil, List.take_succ_cons, List.take_zero, List.drop_succ_cons, List.drop_zero, List.reverse_cons, List.reverse_nil, Option.toList, Value.category, List.sum_cons, List.sum_nil, zk_0, zk_1, zk_12, zk_20, zk_23, zk_27, zn_2, zn_3, zn_4, zn_5, zn_6, zn_7, zn_8, zn_9, zn_10, zn_11, zn_13, zn_14, zn_15, zn_16, zn_17, zn_18, zn_19, zn_21, zn_22, zn_24, zn_25, zn_26, zn_28, zn_29, zn_30, zn_31, zn_32, zn_33, zn_34, zn_35, zn_36, zn_37, zn_38, zn_39, zn_40, zn_41, zn_42, zn_43, zn_44, zn_45, zn_46, Nat.reduceAdd, Nat.reduceSub, Nat.reduceLeDiff, true_and, and_true]
          refine ⟨fun e2 => absurd trivial e2, fun _ => ?_⟩
          rw [show nI kk = 10 ↔ kk = 10 from nI_is 10 rfl (by omega) (by omega)]
          refine ⟨fun e10 => b24 _ ?_, fun _ => k23⟩
          simp only [bb_M_make_24, oIload, oAload, oIstore, oInc, oConst, o2, oDup, oPop, oDupX1, oDupX2, oDup2, oIf, oIfN, oCmp, oCmpN, oSwitch, oGetR, oGetI, oPutI, oPutZ, oIald, oZald, oIast, oZast, oRetI, oRetZ, oRetV, oCall, oRecv, oMax, List.map_cons, List.map_nil, List.getElem?_cons_zero, List.getElem?_cons_succ, List.set_cons_zero, List.set_cons_succ, List.length_cons, List.length_nil, List.cons_append, List.nil_append, List.append_nil, List.take_succ_cons, List.take_zero, List.drop_succ_cons, List.drop_zero, List.reverse_cons, List.reverse_nil, Option.toList, Value.category, List.sum_cons, List.sum_nil, zk_0, zk_1, zk_12, zk_20, zk_23, zk_27, zn_2, zn_3, zn_4, zn_5, zn_6, zn_7, zn_8, zn_9, zn_10, zn_11, zn_13, zn_14, zn_15, zn_16, zn_17, zn_18, zn_19, zn_21, zn_22, zn_24, zn_25, zn_26, zn_28, zn_29, zn_30, zn_31, zn_32, zn_33, zn_34, zn_35, zn_36, zn_37, zn_38, zn_39, zn_40, zn_41, zn_42, zn_43, zn_44, zn_45, zn_46, Nat.reduceAdd, Nat.reduceSub, Nat.reduceLeDiff, true_and, and_true]
          refine k25 _ _ s2 (zU_at _ _ _ _) (fun e2 => ?_)
          have : ¬ yHs kk := fun q => e ((mHS_k kk hk2).mpr q)
          unfold yNb at e2
          omega
      have k20 : ∀ y9, K 20 ([some (.ref 27), some (.int (nI kk)), some (.int a), some (.int b), some (.int c), some (.int 1), some (.int x6), some (.int x7), some (.int (nI (yNp kk))), y9], [.int (nI (1 + nMax (F.dp p) (F.dp q)))], zU g 27 0 0) := by
        intro y9
        refine b20 _ ?_
        simp only [bb_M_make_20, oIload, oAload, oIstore, oInc, oConst, o2, oDup, oPop, oDupX1, oDupX2, oDup2, oIf, oIfN, oCmp, oCmpN, oSwitch, oGetR, oGetI, oPutI, oPutZ, oIald, oZald, oIast, oZast, oRetI, oRetZ, oRetV, oCall, oRecv, oMax, List.map_cons, List.map_nil, List.getElem?_cons_zero, List.getElem?_cons_succ, List.set_cons_zero, List.set_cons_succ, List.length_cons, List.length_nil, List.cons_append, List.nil_append, List.append_nil, List.take_succ_cons, List.take_zero, List.drop_succ_cons, List.drop_zero, List.reverse_cons, List.reverse_nil, Option.toList, Value.category, List.sum_cons, List.sum_nil, zk_0, zk_1, zk_12, zk_20, zk_23, zk_27, zn_2, zn_3, zn_4, zn_5, zn_6, zn_7, zn_8, zn_9, zn_10, zn_11, zn_13, zn_14, zn_15, zn_16, zn_17, zn_18, zn_19, zn_21, zn_22, zn_24, zn_25, zn_26, zn_28, zn_29, zn_30, zn_31, zn_32, zn_33, zn_34, zn_35, zn_36, zn_37, zn_38, zn_39, zn_40, zn_41, zn_42, zn_43, zn_44, zn_45, zn_46, Nat.reduceAdd, Nat.reduceSub, Nat.reduceLeDiff, true_and, and_true]
        rw [g27]
        have hm : 1 + nMax (F.dp p) (F.dp q) ≤ 21 := by unfold nMax; split <;> omega
        refine pk_eq F.n 60 (fun e => k21 _ (Or.inl e)) (fun e => ?_)
        exact pk_le (1 + nMax (F.dp p) (F.dp q)) 20 (fun e2 => k22 (by omega) e2) (fun e2 => k21 _ (Or.inr e2))
      have k18 : ∀ y9, K 18 ([some (.ref 27), some (.int (nI kk)), some (.int a), some (.int b), some (.int c), some (.int 1), some (.int x6), some (.int x7), some (.int (nI (yNp kk))), y9], [.int (nI (1 + F.dp p))], zU g 27 0 0) := by
        intro y9
        have k19 : F.dp q ≤ F.dp p → K 19 ([some (.ref 27), some (.int (nI kk)), some (.int a), some (.int b), some (.int c), some (.int 1), some (.int x6), some (.int x7), some (.int (nI (yNp kk))), some (.int (nI (1 + F.dp p)))], [], zU g 27 0 0) := by
          intro e
          refine b19 _ ?_
          simp only [bb_M_make_19, oIload, oAload, oIstore, oInc, oConst, o2, oDup, oPop, oDupX1, oDupX2, oDup2, oIf, oIfN, oCmp, oCmpN, oSwitch, oGetR, oGetI, oPutI, oPutZ, oIald, oZald, oIast, oZast, oRetI, oRetZ, oRetV, oCall, oRecv, oMax, List.map_cons, List.map_nil, List.getElem?_cons_zero, List.getElem?_cons_succ, List.set_cons_zero, List.set_cons_succ, List.length_cons, List.length_nil, List.cons_append, List.nil_append, List.append_nil, List.take_succ_cons, List.take_zero, List.drop_succ_cons, List.drop_zero, List.reverse_cons, List.reverse_nil, Option.toList, Value.category, List.sum_cons, List.sum_nil, zk_0, zk_1, zk_12, zk_20, zk_23, zk_27, zn_2, zn_3, zn_4, zn_5, zn_6, zn_7, zn_8, zn_9, zn_10, zn_11, zn_13, zn_14, zn_15, zn_16, zn_17, zn_18, zn_19, zn_21, zn_22, zn_24, zn_25, zn_26, zn_28, zn_29, zn_30, zn_31, zn_32, zn_33, zn_34, zn_35, zn_36, zn_37, zn_38, zn_39, zn_40, zn_41, zn_42, zn_43, zn_44, zn_45, zn_46, Nat.reduceAdd, Nat.reduceSub, Nat.reduceLeDiff, true_and, and_true]
          have := k20 (some (.int (nI (1 + F.dp p))))
          rw [show nMax (F.dp p) (F.dp q) = F.dp p from if_neg (by omega)] at this
          exact this
        refine b18 _ ?_
        simp only [bb_M_make_18, oIload, oAload, oIstore, oInc, oConst, o2, oDup, oPop, oDupX1, oDupX2, oDup2, oIf, oIfN, oCmp, oCmpN, oSwitch, oGetR, oGetI, oPutI, oPutZ, oIald, oZald, oIast, oZast, oRetI, oRetZ, oRetV, oCall, oRecv, oMax, List.map_cons, List.map_nil, List.getElem?_cons_zero, List.getElem?_cons_succ, List.set_cons_zero, List.set_cons_succ, List.length_cons, List.length_nil, List.cons_append, List.nil_append, List.append_nil, List.take_succ_cons, List.take_zero, List.drop_succ_cons, List.drop_zero, List.reverse_cons, List.reverse_nil, Option.toList, Value.category, List.sum_cons, List.sum_nil, zk_0, zk_1, zk_12, zk_20, zk_23, zk_27, zn_2, zn_3, zn_4, zn_5, zn_6, zn_7, zn_8, zn_9, zn_10, zn_11, zn_13, zn_14, zn_15, zn_16, zn_17, zn_18, zn_19, zn_21, zn_22, zn_24, zn_25, zn_26, zn_28, zn_29, zn_30, zn_31, zn_32, zn_33, zn_34, zn_35, zn_36, zn_37, zn_38, zn_39, zn_40, zn_41, zn_42, zn_43, zn_44, zn_45, zn_46, Nat.reduceAdd, Nat.reduceSub, Nat.reduceLeDiff, true_and, and_true]
        rw [np_3 kk hk2]
        refine ⟨fun e => k19 (by rw [d9 e, w3]; omega), fun e => ?_⟩
        have e := Classical.not_not.mp e
        obtain ⟨u1, u2⟩ := d8 e
        have e32 : zU g 27 0 0 32 q = nI (F.dp q) := by rw [zU_ne _ _ _ _ (by omega)]; exact (f2 q u1).2.2.2.2.1
        obtain rfl := hx7 e
        refine ⟨q, rfl, by omega, ?_⟩
        rw [e32, nI_1]
        refine pk_le (F.dp q + 1) (1 + F.dp p) (fun e2 => k19 (by omega)) (fun e2 => ?_)
        refine ⟨q, rfl, by omega, ?_⟩
        rw [e32, nI_1]
        have := k20 (some (.int (nI (1 + F.dp p))))
        rw [show nMax (F.dp p) (F.dp q) = F.dp q from if_pos (by omega), Nat.add_comm 1 (F.dp q)] at this
        exact this
      have k17 : F.dp p = 0 → K 17 ([some (.ref 27), some (.int (nI kk)), some (.int a), some (.int b), some (.int c), some (.int 1), some (.int x6), some (.int x7), some (.int (nI (yNp kk))), some (.int 1)], [], zU g 27 0 0) := by
        intro e
        refine b17 _ ?_
        simp only [bb_M_make_17, oIload, oAload, oIstore, oInc, oConst, o2, oDup, oPop, oDupX1, oDupX2, oDup2, oIf, oIfN, oCmp, oCmpN, oSwitch, oGetR, oGetI, oPutI, oPutZ, oIald, oZald, oIast, oZast, oRetI, oRetZ, oRetV, oCall, oRecv, oMax, List.map_cons, List.map_nil, List.getElem?_cons_zero, List.getElem?_cons_succ, List.set_cons_zero, List.set_cons_succ, List.length_cons, List.length_nil, List.cons_append, List.nil_append, List.append_nil, List.take_succ_cons, List.take_zero, List.drop_succ_cons, List.drop_zero, List.reverse_cons, List.reverse_nil, Option.toList, Value.category, List.sum_cons, List.sum_nil, zk_0, zk_1, zk_12, zk_20, zk_23, zk_27, zn_2, zn_3, zn_4, zn_5, zn_6, zn_7, zn_8, zn_9, zn_10, zn_11, zn_13, zn_14, zn_15, zn_16, zn_17, zn_18, zn_19, zn_21, zn_22, zn_24, zn_25, zn_26, zn_28, zn_29, zn_30, zn_31, zn_32, zn_33, zn_34, zn_35, zn_36, zn_37, zn_38, zn_39, zn_40, zn_41, zn_42, zn_43, zn_44, zn_45, zn_46, Nat.reduceAdd, Nat.reduceSub, Nat.reduceLeDiff, true_and, and_true]
        have := k18 (some (.int 1))
        rw [e] at this
        exact this
      refine b16 _ ?_
      simp only [bb_M_make_16, oIload, oAload, oIstore, oInc, oConst, o2, oDup, oPop, oDupX1, oDupX2, oDup2, oIf, oIfN, oCmp, oCmpN, oSwitch, oGetR, oGetI, oPutI, oPutZ, oIald, oZald, oIast, oZast, oRetI, oRetZ, oRetV, oCall, oRecv, oMax, List.map_cons, List.map_nil, List.getElem?_cons_zero, List.getElem?_cons_succ, List.set_cons_zero, List.set_cons_succ, List.length_cons, List.length_nil, List.cons_append, List.nil_append, List.append_nil, List.take_succ_cons, List.take_zero, List.drop_succ_cons, List.drop_zero, List.reverse_cons, List.reverse_nil, Option.toList, Value.category, List.sum_cons, List.sum_nil, zk_0, zk_1, zk_12, zk_20, zk_23, zk_27, zn_2, zn_3, zn_4, zn_5, zn_6, zn_7, zn_8, zn_9, zn_10, zn_11, zn_13, zn_14, zn_15, zn_16, zn_17, zn_18, zn_19, zn_21, zn_22, zn_24, zn_25, zn_26, zn_28, zn_29, zn_30, zn_31, zn_32, zn_33, zn_34, zn_35, zn_36, zn_37, zn_38, zn_39, zn_40, zn_41, zn_42, zn_43, zn_44, zn_45, zn_46, Nat.reduceAdd, Nat.reduceSub, Nat.reduceLeDiff, true_and, and_true]
      rw [np_0 kk hk2]
      refine ⟨fun e => k17 (by rw [d7 e, w3]), fun e => ?_⟩
      have e := Classical.not_not.mp e
      obtain ⟨u1, u2⟩ := d6 e
      have e32 : zU g 27 0 0 32 p = nI (F.dp p) := by rw [zU_ne _ _ _ _ (by omega)]; exact (f2 p u1).2.2.2.2.1
      obtain rfl := hx6 e
      refine ⟨p, rfl, by omega, ?_⟩
      rw [e32, nI_1]
      refine pk_le (F.dp p + 1) 1 (fun e2 => k17 (by omega)) (fun e2 => ?_)
      refine ⟨p, rfl, by omega, ?_⟩
      rw [e32, nI_1, Nat.add_comm]
      exact k18 _
    have k11 : ∀ (y7 : Option Value), K 11 ([some (.ref 27), some (.int (nI kk)), some (.int a), some (.int b), some (.int c), some (.int 1), some (.int (jA1 kk a b)), y7, y8, y9], [.int (jA1 kk b c)], zU g 27 0 0) := by
      intro y7
      have k13 : ∀ p q, yDec F (nI kk) a b c kk z p q → K 13 ([some (.ref 27), some (.int (nI kk)), some (.int a), some (.int b), some (.int c), some (.int 1), some (.int (jA1 kk a b)), some (.int (jA1 kk b c)), some (.int (nI (yNp kk))), y9], [], zU g 27 0 0) := by
        intro p q hd
        refine b13 _ ?_
        simp only [bb_M_make_13, oIload, oAload, oIstore, oInc, oConst, o2, oDup, oPop, oDupX1, oDupX2, oDup2, oIf, oIfN, oCmp, oCmpN, oSwitch, oGetR, oGetI, oPutI, oPutZ, oIald, oZald, oIast, oZast, oRetI, oRetZ, oRetV, oCall, oRecv, oMax, List.map_cons, List.map_nil, List.getElem?_cons_zero, List.getElem?_cons_succ, List.set_cons_zero, List.set_cons_succ, List.length_cons, List.length_nil, List.cons_append, List.nil_append, List.append_nil, List.take_succ_cons, List.take_zero, List.drop_succ_cons, List.drop_zero, List.reverse_cons, List.reverse_nil, Option.toList, Value.category, List.sum_cons, List.sum_nil, zk_0, zk_1, zk_12, zk_20, zk_23, zk_27, zn_2, zn_3, zn_4, zn_5, zn_6, zn_7, zn_8, zn_9, zn_10, zn_11, zn_13, zn_14, zn_15, zn_16, zn_17, zn_18, zn_19, zn_21, zn_22, zn_24, zn_25, zn_26, zn_28, zn_29, zn_30, zn_31, zn_32, zn_33, zn_34, zn_35, zn_36, zn_37, zn_38, zn_39, zn_40, zn_41, zn_42, zn_43, zn_44, zn_45, zn_46, Nat.reduceAdd, Nat.reduceSub, Nat.reduceLeDiff, true_and, and_true]
        refine b15 _ ?_
        simp only [bb_M_make_15, oIload, oAload, oIstore, oInc, oConst, o2, oDup, oPop, oDupX1, oDupX2, oDup2, oIf, oIfN, oCmp, oCmpN, oSwitch, oGetR, oGetI, oPutI, oPutZ, oIald, oZald, oIast, oZast, oRetI, oRetZ, oRetV, oCall, oRecv, oMax, List.map_cons, List.map_nil, List.getElem?_cons_zero, List.getElem?_cons_succ, List.set_cons_zero, List.set_cons_succ, List.length_cons, List.length_nil, List.cons_append, List.nil_append, List.append_nil, List.take_succ_cons, List.take_zero, List.drop_succ_cons, List.drop_zero, List.reverse_cons, List.reverse_nil, Option.toList, Value.category, List.sum_cons, List.sum_nil, zk_0, zk_1, zk_12, zk_20, zk_23, zk_27, zn_2, zn_3, zn_4, zn_5, zn_6, zn_7, zn_8, zn_9, zn_10, zn_11, zn_13, zn_14, zn_15, zn_16, zn_17, zn_18, zn_19, zn_21, zn_22, zn_24, zn_25, zn_26, zn_28, zn_29, zn_30, zn_31, zn_32, zn_33, zn_34, zn_35, zn_36, zn_37, zn_38, zn_39, zn_40, zn_41, zn_42, zn_43, zn_44, zn_45, zn_46, Nat.reduceAdd, Nat.reduceSub, Nat.reduceLeDiff, true_and, and_true]
        refine ⟨fun _ => ?_, fun e2 => absurd e2 (by decide)⟩
        exact k16 p q _ _ _ hd (fun e => (hd.2.2.2.2.2.1 e).2) (fun e => (hd.2.2.2.2.2.2.2.1 e).2)
      have k12 : ∀ p, ((3 ≤ kk ∧ kk ≤ 9) → p < F.n ∧ jA1 kk a b = nI p) → (¬ (3 ≤ kk ∧ kk ≤ 9) → p = 60) → K 12 ([some (.ref 27), some (.int (nI kk)), some (.int a), some (.int b), some (.int c), some (.int 1), some (.int (jA1 kk a b)), some (.int (jA1 kk b c)), some (.int (nI (yNp kk))), y9], [], zU g 27 0 0) := by
        intro p hp1 hp2
        refine b12 _ ?_
        simp only [bb_M_make_12, oIload, oAload, oIstore, oInc, oConst, o2, oDup, oPop, oDupX1, oDupX2, oDup2, oIf, oIfN, oCmp, oCmpN, oSwitch, oGetR, oGetI, oPutI, oPutZ, oIald, oZald, oIast, oZast, oRetI, oRetZ, oRetV, oCall, oRecv, oMax, List.map_cons, List.map_nil, List.getElem?_cons_zero, List.getElem?_cons_succ, List.set_cons_zero, List.set_cons_succ, List.length_cons, List.length_nil, List.cons_append, List.nil_append, List.append_nil, List.take_succ_cons, List.take_zero, List.drop_succ_cons, List.drop_zero, List.reverse_cons, List.reverse_nil, Option.toList, Value.category, List.sum_cons, List.sum_nil, zk_0, zk_1, zk_12, zk_20, zk_23, zk_27, zn_2, zn_3, zn_4, zn_5, zn_6, zn_7, zn_8, zn_9, zn_10, zn_11, zn_13, zn_14, zn_15, zn_16, zn_17, zn_18, zn_19, zn_21, zn_22, zn_24, zn_25, zn_26, zn_28, zn_29, zn_30, zn_31, zn_32, zn_33, zn_34, zn_35, zn_36, zn_37, zn_38, zn_39, zn_40, zn_41, zn_42, zn_43, zn_44, zn_45, zn_46, Nat.reduceAdd, Nat.reduceSub, Nat.reduceLeDiff, true_and, and_true]
        rw [np_2 kk hk2]
        refine ⟨fun e => k13 p 60 ⟨rfl, hk2, hfit, hz1, hz2, hp1, hp2, fun e2 => absurd e2 e, fun _ => rfl⟩, fun e => ?_⟩
        have e := Classical.not_not.mp e
        rw [g27]
        refine sp_M_within ?_
        simp only [oIload, oAload, oIstore, oInc, oConst, o2, oDup, oPop, oDupX1, oDupX2, oDup2, oIf, oIfN, oCmp, oCmpN, oSwitch, oGetR, oGetI, oPutI, oPutZ, oIald, oZald, oIast, oZast, oRetI, oRetZ, oRetV, oCall, oRecv, oMax, List.map_cons, List.map_nil, List.getElem?_cons_zero, List.getElem?_cons_succ, List.set_cons_zero, List.set_cons_succ, List.length_cons, List.length_nil, List.cons_append, List.nil_append, List.append_nil, List.take_succ_cons, List.take_zero, List.drop_succ_cons, List.drop_zero, List.reverse_cons, List.reverse_nil, Option.toList, Value.category, List.sum_cons, List.sum_nil, zk_0, zk_1, zk_12, zk_20, zk_23, zk_27, zn_2, zn_3, zn_4, zn_5, zn_6, zn_7, zn_8, zn_9, zn_10, zn_11, zn_13, zn_14, zn_15, zn_16, zn_17, zn_18, zn_19, zn_21, zn_22, zn_24, zn_25, zn_26, zn_28, zn_29, zn_30, zn_31, zn_32, zn_33, zn_34, zn_35, zn_36, zn_37, zn_38, zn_39, zn_40, zn_41, zn_42, zn_43, zn_44, zn_45, zn_46, Nat.reduceAdd, Nat.reduceSub, Nat.reduceLeDiff, true_and, and_true]
        rw [zS_01]
        refine ⟨fun e2 => k14 _ _ _ _ _ ?_, fun e2 => ?_⟩
        · rintro ⟨kk', z', p', q', d1, d2, d3, d4, d5, d6, d7, d8, d9⟩
          obtain rfl := nI_inj (by omega) (by omega) d1
          obtain ⟨u1, u2⟩ := d8 e
          exact (in_n w1).mpr ⟨q', u1, u2⟩ e2
        · obtain ⟨q, u1, u2⟩ := (in_n w1).mp e2
          exact k13 p q ⟨rfl, hk2, hfit, hz1, hz2, hp1, hp2, fun _ => ⟨u1, u2⟩, fun e3 => absurd e e3⟩
      refine b11 _ ?_
      simp only [bb_M_make_11, oIload, oAload, oIstore, oInc, oConst, o2, oDup, oPop, oDupX1, oDupX2, oDup2, oIf, oIfN, oCmp, oCmpN, oSwitch, oGetR, oGetI, oPutI, oPutZ, oIald, oZald, oIast, oZast, oRetI, oRetZ, oRetV, oCall, oRecv, oMax, List.map_cons, List.map_nil, List.getElem?_cons_zero, List.getElem?_cons_succ, List.set_cons_zero, List.set_cons_succ, List.length_cons, List.length_nil, List.cons_append, List.nil_append, List.append_nil, List.take_succ_cons, List.take_zero, List.drop_succ_cons, List.drop_zero, List.reverse_cons, List.reverse_nil, Option.toList, Value.category, List.sum_cons, List.sum_nil, zk_0, zk_1, zk_12, zk_20, zk_23, zk_27, zn_2, zn_3, zn_4, zn_5, zn_6, zn_7, zn_8, zn_9, zn_10, zn_11, zn_13, zn_14, zn_15, zn_16, zn_17, zn_18, zn_19, zn_21, zn_22, zn_24, zn_25, zn_26, zn_28, zn_29, zn_30, zn_31, zn_32, zn_33, zn_34, zn_35, zn_36, zn_37, zn_38, zn_39, zn_40, zn_41, zn_42, zn_43, zn_44, zn_45, zn_46, Nat.reduceAdd, Nat.reduceSub, Nat.reduceLeDiff, true_and, and_true]
      refine sp_M_parts ?_
      rw [np_k kk hk2]
      simp only [oIload, oAload, oIstore, oInc, oConst, o2, oDup, oPop, oDupX1, oDupX2, oDup2, oIf, oIfN, oCmp, oCmpN, oSwitch, oGetR, oGetI, oPutI, oPutZ, oIald, oZald, oIast, oZast, oRetI, oRetZ, oRetV, oCall, oRecv, oMax, List.map_cons, List.map_nil, List.getElem?_cons_zero, List.getElem?_cons_succ, List.set_cons_zero, List.set_cons_succ, List.length_cons, List.length_nil, List.cons_append, List.nil_append, List.append_nil, List.take_succ_cons, List.take_zero, List.drop_succ_cons, List.drop_zero, List.reverse_cons, List.reverse_nil, Option.toList, Value.category, List.sum_cons, List.sum_nil, zk_0, zk_1, zk_12, zk_20, zk_23, zk_27, zn_2, zn_3, zn_4, zn_5, zn_6, zn_7, zn_8, zn_9, zn_10, zn_11, zn_13, zn_14, zn_15, zn_16, zn_17, zn_18, zn_19, zn_21, zn_22, zn_24, zn_25, zn_26, zn_28, zn_29, zn_30, zn_31, zn_32, zn_33, zn_34, zn_35, zn_36, zn_37, zn_38, zn_39, zn_40, zn_41, zn_42, zn_43, zn_44, zn_45, zn_46, Nat.reduceAdd, Nat.reduceSub, Nat.reduceLeDiff, true_and, and_true]
      refine ⟨fun e2 => absurd e2 (by decide), fun _ => ?_⟩
      rw [np_1 kk hk2]
      refine ⟨fun e => k12 60 (fun e2 => absurd e2 e) (fun _ => rfl), fun e => ?_⟩
      have e := Classical.not_not.mp e
      rw [g27]
      refine sp_M_within ?_
      simp only [oIload, oAload, oIstore, oInc, oConst, o2, oDup, oPop, oDupX1, oDupX2, oDup2, oIf, oIfN, oCmp, oCmpN, oSwitch, oGetR, oGetI, oPutI, oPutZ, oIald, oZald, oIast, oZast, oRetI, oRetZ, oRetV, oCall, oRecv, oMax, List.map_cons, List.map_nil, List.getElem?_cons_zero, List.getElem?_cons_succ, List.set_cons_zero, List.set_cons_succ, List.length_cons, List.length_nil, List.cons_append, List.nil_append, List.append_nil, List.take_succ_cons, List.take_zero, List.drop_succ_cons, List.drop_zero, List.reverse_cons, List.reverse_nil, Option.toList, Value.category, List.sum_cons, List.sum_nil, zk_0, zk_1, zk_12, zk_20, zk_23, zk_27, zn_2, zn_3, zn_4, zn_5, zn_6, zn_7, zn_8, zn_9, zn_10, zn_11, zn_13, zn_14, zn_15, zn_16, zn_17, zn_18, zn_19, zn_21, zn_22, zn_24, zn_25, zn_26, zn_28, zn_29, zn_30, zn_31, zn_32, zn_33, zn_34, zn_35, zn_36, zn_37, zn_38, zn_39, zn_40, zn_41, zn_42, zn_43, zn_44, zn_45, zn_46, Nat.reduceAdd, Nat.reduceSub, Nat.reduceLeDiff, true_and, and_true]
      rw [zS_01]
      refine ⟨fun e2 => k14 _ _ _ _ _ ?_, fun e2 => ?_⟩
      · rintro ⟨kk', z', p', q', d1, d2, d3, d4, d5, d6, d7, d8, d9⟩
        obtain rfl := nI_inj (by omega) (by omega) d1
        obtain ⟨u1, u2⟩ := d6 e
        exact (in_n w1).mpr ⟨p', u1, u2⟩ e2
      · obtain ⟨p, u1, u2⟩ := (in_n w1).mp e2
        exact k12 p (fun _ => ⟨u1, u2⟩) (fun e3 => absurd e e3)
    have k9 : K 9 ([some (.ref 27), some (.int (nI kk)), some (.int a), some (.int b), some (.int c), some (.int 1), y6, y7, y8, y9], [.int (jA1 kk a b)], zU g 27 0 0) := by
      refine b9 _ ?_
      simp only [bb_M_make_9, oIload, oAload, oIstore, oInc, oConst, o2, oDup, oPop, oDupX1, oDupX2, oDup2, oIf, oIfN, oCmp, oCmpN, oSwitch, oGetR, oGetI, oPutI, oPutZ, oIald, oZald, oIast, oZast, oRetI, oRetZ, oRetV, oCall, oRecv, oMax, List.map_cons, List.map_nil, List.getElem?_cons_zero, List.getElem?_cons_succ, List.set_cons_zero, List.set_cons_succ, List.length_cons, List.length_nil, List.cons_append, List.nil_append, List.append_nil, List.take_succ_cons, List.take_zero, List.drop_succ_cons, List.drop_zero, List.reverse_cons, List.reverse_nil, Option.toList, Value.category, List.sum_cons, List.sum_nil, zk_0, zk_1, zk_12, zk_20, zk_23, zk_27, zn_2, zn_3, zn_4, zn_5, zn_6, zn_7, zn_8, zn_9, zn_10, zn_11, zn_13, zn_14, zn_15, zn_16, zn_17, zn_18, zn_19, zn_21, zn_22, zn_24, zn_25, zn_26, zn_28, zn_29, zn_30, zn_31, zn_32, zn_33, zn_34, zn_35, zn_36, zn_37, zn_38, zn_39, zn_40, zn_41, zn_42, zn_43, zn_44, zn_45, zn_46, Nat.reduceAdd, Nat.reduceSub, Nat.reduceLeDiff, true_and, and_true]
      refine sp_M_hasSignal (fun e => ?_) (fun e => ?_)
      · simp only [oIload, oAload, oIstore, oInc, oConst, o2, oDup, oPop, oDupX1, oDupX2, oDup2, oIf, oIfN, oCmp, oCmpN, oSwitch, oGetR, oGetI, oPutI, oPutZ, oIald, oZald, oIast, oZast, oRetI, oRetZ, oRetV, oCall, oRecv, oMax, List.map_cons, List.map_nil, List.getElem?_cons_zero, List.getElem?_cons_succ, List.set_cons_zero, List.set_cons_succ, List.length_cons, List.length_nil, List.cons_append, List.nil_append, List.append_nil, List.take_succ_cons, List.take_zero, List.drop_succ_cons, List.drop_zero, List.reverse_cons, List.reverse_nil, Option.toList, Value.category, List.sum_cons, List.sum_nil, zk_0, zk_1, zk_12, zk_20, zk_23, zk_27, zn_2, zn_3, zn_4, zn_5, zn_6, zn_7, zn_8, zn_9, zn_10, zn_11, zn_13, zn_14, zn_15, zn_16, zn_17, zn_18, zn_19, zn_21, zn_22, zn_24, zn_25, zn_26, zn_28, zn_29, zn_30, zn_31, zn_32, zn_33, zn_34, zn_35, zn_36, zn_37, zn_38, zn_39, zn_40, zn_41, zn_42, zn_43, zn_44, zn_45, zn_46, Nat.reduceAdd, Nat.reduceSub, Nat.reduceLeDiff, true_and, and_true]
        refine ⟨fun e2 => absurd e2 (by decide), fun _ => ?_⟩
        have := k11 y7
        rw [show jA1 kk b c = c from if_pos ((mHS_k kk hk2).mp e)] at this
        exact this
      · simp only [oIload, oAload, oIstore, oInc, oConst, o2, oDup, oPop, oDupX1, oDupX2, oDup2, oIf, oIfN, oCmp, oCmpN, oSwitch, oGetR, oGetI, oPutI, oPutZ, oIald, oZald, oIast, oZast, oRetI, oRetZ, oRetV, oCall, oRecv, oMax, List.map_cons, List.map_nil, List.getElem?_cons_zero, List.getElem?_cons_succ, List.set_cons_zero, List.set_cons_succ, List.length_cons, List.length_nil, List.cons_append, List.nil_append, List.append_nil, List.take_succ_cons, List.take_zero, List.drop_succ_cons, List.drop_zero, List.reverse_cons, List.reverse_nil, Option.toList, Value.category, List.sum_cons, List.sum_nil, zk_0, zk_1, zk_12, zk_20, zk_23, zk_27, zn_2, zn_3, zn_4, zn_5, zn_6, zn_7, zn_8, zn_9, zn_10, zn_11, zn_13, zn_14, zn_15, zn_16, zn_17, zn_18, zn_19, zn_21, zn_22, zn_24, zn_25, zn_26, zn_28, zn_29, zn_30, zn_31, zn_32, zn_33, zn_34, zn_35, zn_36, zn_37, zn_38, zn_39, zn_40, zn_41, zn_42, zn_43, zn_44, zn_45, zn_46, Nat.reduceAdd, Nat.reduceSub, Nat.reduceLeDiff, true_and, and_true]
        refine ⟨fun _ => b10 _ ?_, fun e2 => absurd trivial e2⟩
        simp only [bb_M_make_10, oIload, oAload, oIstore, oInc, oConst, o2, oDup, oPop, oDupX1, oDupX2, oDup2, oIf, oIfN, oCmp, oCmpN, oSwitch, oGetR, oGetI, oPutI, oPutZ, oIald, oZald, oIast, oZast, oRetI, oRetZ, oRetV, oCall, oRecv, oMax, List.map_cons, List.map_nil, List.getElem?_cons_zero, List.getElem?_cons_succ, List.set_cons_zero, List.set_cons_succ, List.length_cons, List.length_nil, List.cons_append, List.nil_append, List.append_nil, List.take_succ_cons, List.take_zero, List.drop_succ_cons, List.drop_zero, List.reverse_cons, List.reverse_nil, Option.toList, Value.category, List.sum_cons, List.sum_nil, zk_0, zk_1, zk_12, zk_20, zk_23, zk_27, zn_2, zn_3, zn_4, zn_5, zn_6, zn_7, zn_8, zn_9, zn_10, zn_11, zn_13, zn_14, zn_15, zn_16, zn_17, zn_18, zn_19, zn_21, zn_22, zn_24, zn_25, zn_26, zn_28, zn_29, zn_30, zn_31, zn_32, zn_33, zn_34, zn_35, zn_36, zn_37, zn_38, zn_39, zn_40, zn_41, zn_42, zn_43, zn_44, zn_45, zn_46, Nat.reduceAdd, Nat.reduceSub, Nat.reduceLeDiff, true_and, and_true]
        have := k11 y7
        rw [show jA1 kk b c = b from if_neg (fun q => e ((mHS_k kk hk2).mpr q))] at this
        exact this
    refine b7 _ ?_
    simp only [bb_M_make_7, oIload, oAload, oIstore, oInc, oConst, o2, oDup, oPop, oDupX1, oDupX2, oDup2, oIf, oIfN, oCmp, oCmpN, oSwitch, oGetR, oGetI, oPutI, oPutZ, oIald, oZald, oIast, oZast, oRetI, oRetZ, oRetV, oCall, oRecv, oMax, List.map_cons, List.map_nil, List.getElem?_cons_zero, List.getElem?_cons_succ, List.set_cons_zero, List.set_cons_succ, List.length_cons, List.length_nil, List.cons_append, List.nil_append, List.append_nil, List.take_succ_cons, List.take_zero, List.drop_succ_cons, List.drop_zero, List.reverse_cons, List.reverse_nil, Option.toList, Value.category, List.sum_cons, List.sum_nil, zk_0, zk_1, zk_12, zk_20, zk_23, zk_27, zn_2, zn_3, zn_4, zn_5, zn_6, zn_7, zn_8, zn_9, zn_10, zn_11, zn_13, zn_14, zn_15, zn_16, zn_17, zn_18, zn_19, zn_21, zn_22, zn_24, zn_25, zn_26, zn_28, zn_29, zn_30, zn_31, zn_32, zn_33, zn_34, zn_35, zn_36, zn_37, zn_38, zn_39, zn_40, zn_41, zn_42, zn_43, zn_44, zn_45, zn_46, Nat.reduceAdd, Nat.reduceSub, Nat.reduceLeDiff, true_and, and_true]
    refine sp_M_hasSignal (fun e => ?_) (fun e => ?_)
    · simp only [oIload, oAload, oIstore, oInc, oConst, o2, oDup, oPop, oDupX1, oDupX2, oDup2, oIf, oIfN, oCmp, oCmpN, oSwitch, oGetR, oGetI, oPutI, oPutZ, oIald, oZald, oIast, oZast, oRetI, oRetZ, oRetV, oCall, oRecv, oMax, List.map_cons, List.map_nil, List.getElem?_cons_zero, List.getElem?_cons_succ, List.set_cons_zero, List.set_cons_succ, List.length_cons, List.length_nil, List.cons_append, List.nil_append, List.append_nil, List.take_succ_cons, List.take_zero, List.drop_succ_cons, List.drop_zero, List.reverse_cons, List.reverse_nil, Option.toList, Value.category, List.sum_cons, List.sum_nil, zk_0, zk_1, zk_12, zk_20, zk_23, zk_27, zn_2, zn_3, zn_4, zn_5, zn_6, zn_7, zn_8, zn_9, zn_10, zn_11, zn_13, zn_14, zn_15, zn_16, zn_17, zn_18, zn_19, zn_21, zn_22, zn_24, zn_25, zn_26, zn_28, zn_29, zn_30, zn_31, zn_32, zn_33, zn_34, zn_35, zn_36, zn_37, zn_38, zn_39, zn_40, zn_41, zn_42, zn_43, zn_44, zn_45, zn_46, Nat.reduceAdd, Nat.reduceSub, Nat.reduceLeDiff, true_and, and_true]
      refine ⟨fun e2 => absurd e2 (by decide), fun _ => ?_⟩
      rw [show jA1 kk a b = b from if_pos ((mHS_k kk hk2).mp e)] at k9
      exact k9
    · simp only [oIload, oAload, oIstore, oInc, oConst, o2, oDup, oPop, oDupX1, oDupX2, oDup2, oIf, oIfN, oCmp, oCmpN, oSwitch, oGetR, oGetI, oPutI, oPutZ, oIald, oZald, oIast, oZast, oRetI, oRetZ, oRetV, oCall, oRecv, oMax, List.map_cons, List.map_nil, List.getElem?_cons_zero, List.getElem?_cons_succ, List.set_cons_zero, List.set_cons_succ, List.length_cons, List.length_nil, List.cons_append, List.nil_append, List.append_nil, List.take_succ_cons, List.take_zero, List.drop_succ_cons, List.drop_zero, List.reverse_cons, List.reverse_nil, Option.toList, Value.category, List.sum_cons, List.sum_nil, zk_0, zk_1, zk_12, zk_20, zk_23, zk_27, zn_2, zn_3, zn_4, zn_5, zn_6, zn_7, zn_8, zn_9, zn_10, zn_11, zn_13, zn_14, zn_15, zn_16, zn_17, zn_18, zn_19, zn_21, zn_22, zn_24, zn_25, zn_26, zn_28, zn_29, zn_30, zn_31, zn_32, zn_33, zn_34, zn_35, zn_36, zn_37, zn_38, zn_39, zn_40, zn_41, zn_42, zn_43, zn_44, zn_45, zn_46, Nat.reduceAdd, Nat.reduceSub, Nat.reduceLeDiff, true_and, and_true]
      refine ⟨fun _ => b8 _ ?_, fun e2 => absurd trivial e2⟩
      simp only [bb_M_make_8, oIload, oAload, oIstore, oInc, oConst, o2, oDup, oPop, oDupX1, oDupX2, oDup2, oIf, oIfN, oCmp, oCmpN, oSwitch, oGetR, oGetI, oPutI, oPutZ, oIald, oZald, oIast, oZast, oRetI, oRetZ, oRetV, oCall, oRecv, oMax, List.map_cons, List.map_nil, List.getElem?_cons_zero, List.getElem?_cons_succ, List.set_cons_zero, List.set_cons_succ, List.length_cons, List.length_nil, List.cons_append, List.nil_append, List.append_nil, List.take_succ_cons, List.take_zero, List.drop_succ_cons, List.drop_zero, List.reverse_cons, List.reverse_nil, Option.toList, Value.category, List.sum_cons, List.sum_nil, zk_0, zk_1, zk_12, zk_20, zk_23, zk_27, zn_2, zn_3, zn_4, zn_5, zn_6, zn_7, zn_8, zn_9, zn_10, zn_11, zn_13, zn_14, zn_15, zn_16, zn_17, zn_18, zn_19, zn_21, zn_22, zn_24, zn_25, zn_26, zn_28, zn_29, zn_30, zn_31, zn_32, zn_33, zn_34, zn_35, zn_36, zn_37, zn_38, zn_39, zn_40, zn_41, zn_42, zn_43, zn_44, zn_45, zn_46, Nat.reduceAdd, Nat.reduceSub, Nat.reduceLeDiff, true_and, and_true]
      rw [show jA1 kk a b = a from if_neg (fun q => e ((mHS_k kk hk2).mpr q))] at k9
      exact k9
  have k6 : ∀ y5 y6 y7 y8 y9, (¬ ∃ kk z p q, yDec F k a b c kk z p q) → K 6 ([some (.ref 27), some (.int k), some (.int a), some (.int b), some (.int c), y5, y6, y7, y8, y9], [], zU g 27 0 0) := by
    intro y5 y6 y7 y8 y9 e
    refine b6 _ ?_
    simp only [bb_M_make_6, oIload, oAload, oIstore, oInc, oConst, o2, oDup, oPop, oDupX1, oDupX2, oDup2, oIf, oIfN, oCmp, oCmpN, oSwitch, oGetR, oGetI, oPutI, oPutZ, oIald, oZald, oIast, oZast, oRetI, oRetZ, oRetV, oCall, oRecv, oMax, List.map_cons, List.map_nil, List.getElem?_cons_zero, List.getElem?_cons_succ, List.set_cons_zero, List.set_cons_succ, List.length_cons, List.length_nil, List.cons_append, List.nil_append, List.append_nil, List.take_succ_cons, List.take_zero, List.drop_succ_cons, List.drop_zero, List.reverse_cons, List.reverse_nil, Option.toList, Value.category, List.sum_cons, List.sum_nil, zk_0, zk_1, zk_12, zk_20, zk_23, zk_27, zn_2, zn_3, zn_4, zn_5, zn_6, zn_7, zn_8, zn_9, zn_10, zn_11, zn_13, zn_14, zn_15, zn_16, zn_17, zn_18, zn_19, zn_21, zn_22, zn_24, zn_25, zn_26, zn_28, zn_29, zn_30, zn_31, zn_32, zn_33, zn_34, zn_35, zn_36, zn_37, zn_38, zn_39, zn_40, zn_41, zn_42, zn_43, zn_44, zn_45, zn_46, Nat.reduceAdd, Nat.reduceSub, Nat.reduceLeDiff, true_and, and_true]
    exact kb _ _ _ _ _ e
  refine b0 _ ?_
  simp only [bb_M_make_0, oIload, oAload, oIstore, oInc, oConst, o2, oDup, oPop, oDupX1, oDupX2, oDup2, oIf, oIfN, oCmp, oCmpN, oSwitch, oGetR, oGetI, oPutI, oPutZ, oIald, oZald, oIast, oZast, oRetI, oRetZ, oRetV, oCall, oRecv, oMax, List.map_cons, List.map_nil, List.getElem?_cons_zero, List.getElem?_cons_succ, List.set_cons_zero, List.set_cons_succ, List.length_cons, List.length_nil, List.cons_append, List.nil_append, List.append_nil, List.take_succ_cons, List.take_zero, List.drop_succ_cons, List.drop_zero, List.reverse_cons, List.reverse_nil, Option.toList, Value.category, List.sum_cons, List.sum_nil, zk_0, zk_1, zk_12, zk_20, zk_23, zk_27, zn_2, zn_3, zn_4, zn_5, zn_6, zn_7, zn_8, zn_9, zn_10, zn_11, zn_13, zn_14, zn_15, zn_16, zn_17, zn_18, zn_19, zn_21, zn_22, zn_24, zn_25, zn_26, zn_28, zn_29, zn_30, zn_31, zn_32, zn_33, zn_34, zn_35, zn_36, zn_37, zn_38, zn_39, zn_40, zn_41, zn_42, zn_43, zn_44, zn_45, zn_46, Nat.reduceAdd, Nat.reduceSub, Nat.reduceLeDiff, true_and, and_true]
  refine sp_M_within ?_
  simp only [oIload, oAload, oIstore, oInc, oConst, o2, oDup, oPop, oDupX1, oDupX2, oDup2, oIf, oIfN, oCmp, oCmpN, oSwitch, oGetR, oGetI, oPutI, oPutZ, oIald, oZald, oIast, oZast, oRetI, oRetZ, oRetV, oCall, oRecv, oMax, List.map_cons, List.map_nil, List.getElem?_cons_zero, List.getElem?_cons_succ, List.set_cons_zero, List.set_cons_succ, List.length_cons, List.length_nil, List.cons_append, List.nil_append, List.append_nil, List.take_succ_cons, List.take_zero, List.drop_succ_cons, List.drop_zero, List.reverse_cons, List.reverse_nil, Option.toList, Value.category, List.sum_cons, List.sum_nil, zk_0, zk_1, zk_12, zk_20, zk_23, zk_27, zn_2, zn_3, zn_4, zn_5, zn_6, zn_7, zn_8, zn_9, zn_10, zn_11, zn_13, zn_14, zn_15, zn_16, zn_17, zn_18, zn_19, zn_21, zn_22, zn_24, zn_25, zn_26, zn_28, zn_29, zn_30, zn_31, zn_32, zn_33, zn_34, zn_35, zn_36, zn_37, zn_38, zn_39, zn_40, zn_41, zn_42, zn_43, zn_44, zn_45, zn_46, Nat.reduceAdd, Nat.reduceSub, Nat.reduceLeDiff, true_and, and_true]
  rw [zS_01]
  refine ⟨fun e => k6 _ _ _ _ _ ?_, fun e => ?_⟩
  · rintro ⟨kk, z, p, q, rfl, hk2, -⟩
    rcases e with e | e
    · exact nI_pos (by omega) e
    · exact nI_nlt (a := 10) (b := kk) (by omega) (by omega) e
  · obtain ⟨kk, hk2, rfl⟩ := in_k e
    have nofit : ¬ jFits kk a → ¬ ∃ kk' z p q, yDec F (nI kk) a b c kk' z p q := by
      rintro hf ⟨kk', z', p', q', d1, d2, d3, -⟩
      obtain rfl := nI_inj (by omega) (by omega) d1
      exact hf d3
    have k5 : ∀ y5 y6 y7 y8 y9, jFits kk a → K 5 ([some (.ref 27), some (.int (nI kk)), some (.int a), some (.int b), some (.int c), y5, y6, y7, y8, y9], [], zU g 27 0 0) := by
      intro y5 y6 y7 y8 y9 hf
      refine b5 _ ?_
      simp only [bb_M_make_5, oIload, oAload, oIstore, oInc, oConst, o2, oDup, oPop, oDupX1, oDupX2, oDup2, oIf, oIfN, oCmp, oCmpN, oSwitch, oGetR, oGetI, oPutI, oPutZ, oIald, oZald, oIast, oZast, oRetI, oRetZ, oRetV, oCall, oRecv, oMax, List.map_cons, List.map_nil, List.getElem?_cons_zero, List.getElem?_cons_succ, List.set_cons_zero, List.set_cons_succ, List.length_cons, List.length_nil, List.cons_append, List.nil_append, List.append_nil, List.take_succ_cons, List.take_zero, List.drop_succ_cons, List.drop_zero, List.reverse_cons, List.reverse_nil, Option.toList, Value.category, List.sum_cons, List.sum_nil, zk_0, zk_1, zk_12, zk_20, zk_23, zk_27, zn_2, zn_3, zn_4, zn_5, zn_6, zn_7, zn_8, zn_9, zn_10, zn_11, zn_13, zn_14, zn_15, zn_16, zn_17, zn_18, zn_19, zn_21, zn_22, zn_24, zn_25, zn_26, zn_28, zn_29, zn_30, zn_31, zn_32, zn_33, zn_34, zn_35, zn_36, zn_37, zn_38, zn_39, zn_40, zn_41, zn_42, zn_43, zn_44, zn_45, zn_46, Nat.reduceAdd, Nat.reduceSub, Nat.reduceLeDiff, true_and, and_true]
      obtain ⟨z, hz1, hz2⟩ := jFits_z hf
      exact kg kk z _ _ _ _ _ rfl hk2 hf hz1 hz2
    have k4 : ∀ y5 y6 y7 y8 y9, ((kk = 2 ∨ kk = 8) → ¬ a < 3 ∧ ¬ 8 ≤ a) → ((kk = 6 ∨ kk = 7) → ¬ a < 0 ∧ ¬ 8 ≤ a) → K 4 ([some (.ref 27), some (.int (nI kk)), some (.int a), some (.int b), some (.int c), y5, y6, y7, y8, y9], [], zU g 27 0 0) := by
      intro y5 y6 y7 y8 y9 q1 q2
      refine b4 _ ?_
      simp only [bb_M_make_4, oIload, oAload, oIstore, oInc, oConst, o2, oDup, oPop, oDupX1, oDupX2, oDup2, oIf, oIfN, oCmp, oCmpN, oSwitch, oGetR, oGetI, oPutI, oPutZ, oIald, oZald, oIast, oZast, oRetI, oRetZ, oRetV, oCall, oRecv, oMax, List.map_cons, List.map_nil, List.getElem?_cons_zero, List.getElem?_cons_succ, List.set_cons_zero, List.set_cons_succ, List.length_cons, List.length_nil, List.cons_append, List.nil_append, List.append_nil, List.take_succ_cons, List.take_zero, List.drop_succ_cons, List.drop_zero, List.reverse_cons, List.reverse_nil, Option.toList, Value.category, List.sum_cons, List.sum_nil, zk_0, zk_1, zk_12, zk_20, zk_23, zk_27, zn_2, zn_3, zn_4, zn_5, zn_6, zn_7, zn_8, zn_9, zn_10, zn_11, zn_13, zn_14, zn_15, zn_16, zn_17, zn_18, zn_19, zn_21, zn_22, zn_24, zn_25, zn_26, zn_28, zn_29, zn_30, zn_31, zn_32, zn_33, zn_34, zn_35, zn_36, zn_37, zn_38, zn_39, zn_40, zn_41, zn_42, zn_43, zn_44, zn_45, zn_46, Nat.reduceAdd, Nat.reduceSub, Nat.reduceLeDiff, true_and, and_true]
      rw [show nI kk = 10 ↔ kk = 10 from nI_is 10 rfl (by omega) (by omega)]
      refine ⟨fun e10 => k5 _ _ _ _ _ ⟨q1, q2, fun e2 => absurd e2 e10⟩, fun e10 => ?_⟩
      refine sp_M_within ?_
      simp only [oIload, oAload, oIstore, oInc, oConst, o2, oDup, oPop, oDupX1, oDupX2, oDup2, oIf, oIfN, oCmp, oCmpN, oSwitch, oGetR, oGetI, oPutI, oPutZ, oIald, oZald, oIast, oZast, oRetI, oRetZ, oRetV, oCall, oRecv, oMax, List.map_cons, List.map_nil, List.getElem?_cons_zero, List.getElem?_cons_succ, List.set_cons_zero, List.set_cons_succ, List.length_cons, List.length_nil, List.cons_append, List.nil_append, List.append_nil, List.take_succ_cons, List.take_zero, List.drop_succ_cons, List.drop_zero, List.reverse_cons, List.reverse_nil, Option.toList, Value.category, List.sum_cons, List.sum_nil, zk_0, zk_1, zk_12, zk_20, zk_23, zk_27, zn_2, zn_3, zn_4, zn_5, zn_6, zn_7, zn_8, zn_9, zn_10, zn_11, zn_13, zn_14, zn_15, zn_16, zn_17, zn_18, zn_19, zn_21, zn_22, zn_24, zn_25, zn_26, zn_28, zn_29, zn_30, zn_31, zn_32, zn_33, zn_34, zn_35, zn_36, zn_37, zn_38, zn_39, zn_40, zn_41, zn_42, zn_43, zn_44, zn_45, zn_46, Nat.reduceAdd, Nat.reduceSub, Nat.reduceLeDiff, true_and, and_true]
      rw [zS_01]
      refine ⟨fun e2 => k6 _ _ _ _ _ (nofit fun q => ?_), fun e2 => k5 _ _ _ _ _ ⟨q1, q2, fun _ => ⟨fun q => e2 (Or.inl q), fun q => e2 (Or.inr q)⟩⟩⟩
      exact e2.elim (q.2.2 e10).1 (q.2.2 e10).2
    have k3 : ∀ (lo : Int32) y5 y6 y7 y8 y9, yHs kk → (lo = if kk = 2 ∨ kk = 8 then 3 else 0) → K 3 ([some (.ref 27), some (.int (nI kk)), some (.int a), some (.int b), some (.int c), y5, y6, y7, y8, y9], [.int lo, .int a], zU g 27 0 0) := by
      intro lo y5 y6 y7 y8 y9 e2 hlo
      refine b3 _ ?_
      simp only [bb_M_make_3, oIload, oAload, oIstore, oInc, oConst, o2, oDup, oPop, oDupX1, oDupX2, oDup2, oIf, oIfN, oCmp, oCmpN, oSwitch, oGetR, oGetI, oPutI, oPutZ, oIald, oZald, oIast, oZast, oRetI, oRetZ, oRetV, oCall, oRecv, oMax, List.map_cons, List.map_nil, List.getElem?_cons_zero, List.getElem?_cons_succ, List.set_cons_zero, List.set_cons_succ, List.length_cons, List.length_nil, List.cons_append, List.nil_append, List.append_nil, List.take_succ_cons, List.take_zero, List.drop_succ_cons, List.drop_zero, List.reverse_cons, List.reverse_nil, Option.toList, Value.category, List.sum_cons, List.sum_nil, zk_0, zk_1, zk_12, zk_20, zk_23, zk_27, zn_2, zn_3, zn_4, zn_5, zn_6, zn_7, zn_8, zn_9, zn_10, zn_11, zn_13, zn_14, zn_15, zn_16, zn_17, zn_18, zn_19, zn_21, zn_22, zn_24, zn_25, zn_26, zn_28, zn_29, zn_30, zn_31, zn_32, zn_33, zn_34, zn_35, zn_36, zn_37, zn_38, zn_39, zn_40, zn_41, zn_42, zn_43, zn_44, zn_45, zn_46, Nat.reduceAdd, Nat.reduceSub, Nat.reduceLeDiff, true_and, and_true]
      refine sp_M_within ?_
      simp only [oIload, oAload, oIstore, oInc, oConst, o2, oDup, oPop, oDupX1, oDupX2, oDup2, oIf, oIfN, oCmp, oCmpN, oSwitch, oGetR, oGetI, oPutI, oPutZ, oIald, oZald, oIast, oZast, oRetI, oRetZ, oRetV, oCall, oRecv, oMax, List.map_cons, List.map_nil, List.getElem?_cons_zero, List.getElem?_cons_succ, List.set_cons_zero, List.set_cons_succ, List.length_cons, List.length_nil, List.cons_append, List.nil_append, List.append_nil, List.take_succ_cons, List.take_zero, List.drop_succ_cons, List.drop_zero, List.reverse_cons, List.reverse_nil, Option.toList, Value.category, List.sum_cons, List.sum_nil, zk_0, zk_1, zk_12, zk_20, zk_23, zk_27, zn_2, zn_3, zn_4, zn_5, zn_6, zn_7, zn_8, zn_9, zn_10, zn_11, zn_13, zn_14, zn_15, zn_16, zn_17, zn_18, zn_19, zn_21, zn_22, zn_24, zn_25, zn_26, zn_28, zn_29, zn_30, zn_31, zn_32, zn_33, zn_34, zn_35, zn_36, zn_37, zn_38, zn_39, zn_40, zn_41, zn_42, zn_43, zn_44, zn_45, zn_46, Nat.reduceAdd, Nat.reduceSub, Nat.reduceLeDiff, true_and, and_true]
      rw [zS_01, i7]
      by_cases c28 : kk = 2 ∨ kk = 8
      · rw [if_pos c28] at hlo
        subst hlo
        refine ⟨fun e3 => k6 _ _ _ _ _ (nofit fun q => e3.elim (q.1 c28).1 (q.1 c28).2), fun e3 => k4 _ _ _ _ _ (fun _ => ⟨fun q => e3 (Or.inl q), fun q => e3 (Or.inr q)⟩) (fun q => by omega)⟩
      · rw [if_neg c28] at hlo
        subst hlo
        have c67 : kk = 6 ∨ kk = 7 := by unfold yHs at e2; omega
        refine ⟨fun e3 => k6 _ _ _ _ _ (nofit fun q => e3.elim (q.2.1 c67).1 (q.2.1 c67).2), fun e3 => k4 _ _ _ _ _ (fun q => by omega) (fun _ => ⟨fun q => e3 (Or.inl q), fun q => e3 (Or.inr q)⟩)⟩
    refine sp_M_hasSignal (fun e2 => ?_) (fun e2 => ?_)
    · simp only [oIload, oAload, oIstore, oInc, oConst, o2, oDup, oPop, oDupX1, oDupX2, oDup2, oIf, oIfN, oCmp, oCmpN, oSwitch, oGetR, oGetI, oPutI, oPutZ, oIald, oZald, oIast, oZast, oRetI, oRetZ, oRetV, oCall, oRecv, oMax, List.map_cons, List.map_nil, List.getElem?_cons_zero, List.getElem?_cons_succ, List.set_cons_zero, List.set_cons_succ, List.length_cons, List.length_nil, List.cons_append, List.nil_append, List.append_nil, List.take_succ_cons, List.take_zero, List.drop_succ_cons, List.drop_zero, List.reverse_cons, List.reverse_nil, Option.toList, Value.category, List.sum_cons, List.sum_nil, zk_0, zk_1, zk_12, zk_20, zk_23, zk_27, zn_2, zn_3, zn_4, zn_5, zn_6, zn_7, zn_8, zn_9, zn_10, zn_11, zn_13, zn_14, zn_15, zn_16, zn_17, zn_18, zn_19, zn_21, zn_22, zn_24, zn_25, zn_26, zn_28, zn_29, zn_30, zn_31, zn_32, zn_33, zn_34, zn_35, zn_36, zn_37, zn_38, zn_39, zn_40, zn_41, zn_42, zn_43, zn_44, zn_45, zn_46, Nat.reduceAdd, Nat.reduceSub, Nat.reduceLeDiff, true_and, and_true]
      have e2 := (mHS_k kk hk2).mp e2
      refine ⟨fun q => absurd q (by decide), fun _ => ?_⟩
      rw [show nI kk = 2 ↔ kk = 2 from nI_is 2 rfl (by omega) (by omega), show nI kk = 8 ↔ kk = 8 from nI_is 8 rfl (by omega) (by omega)]
      have k1 : (kk = 2 ∨ kk = 8) → ∀ y5 y6 y7 y8 y9, K 1 ([some (.ref 27), some (.int (nI kk)), some (.int a), some (.int b), some (.int c), y5, y6, y7, y8, y9], [.int a], zU g 27 0 0) := by
        intro c28 y5 y6 y7 y8 y9
        refine b1 _ ?_
        simp only [bb_M_make_1, oIload, oAload, oIstore, oInc, oConst, o2, oDup, oPop, oDupX1, oDupX2, oDup2, oIf, oIfN, oCmp, oCmpN, oSwitch, oGetR, oGetI, oPutI, oPutZ, oIald, oZald, oIast, oZast, oRetI, oRetZ, oRetV, oCall, oRecv, oMax, List.map_cons, List.map_nil, List.getElem?_cons_zero, List.getElem?_cons_succ, List.set_cons_zero, List.set_cons_succ, List.length_cons, List.length_nil, List.cons_append, List.nil_append, List.append_nil, List.take_succ_cons, List.take_zero, List.drop_succ_cons, List.drop_zero, List.reverse_cons, List.reverse_nil, Option.toList, Value.category, List.sum_cons, List.sum_nil, zk_0, zk_1, zk_12, zk_20, zk_23, zk_27, zn_2, zn_3, zn_4, zn_5, zn_6, zn_7, zn_8, zn_9, zn_10, zn_11, zn_13, zn_14, zn_15, zn_16, zn_17, zn_18, zn_19, zn_21, zn_22, zn_24, zn_25, zn_26, zn_28, zn_29, zn_30, zn_31, zn_32, zn_33, zn_34, zn_35, zn_36, zn_37, zn_38, zn_39, zn_40, zn_41, zn_42, zn_43, zn_44, zn_45, zn_46, Nat.reduceAdd, Nat.reduceSub, Nat.reduceLeDiff, true_and, and_true]
        exact k3 _ _ _ _ _ _ e2 (by rw [if_pos c28])
      refine ⟨fun c2 => k1 (Or.inl c2) _ _ _ _ _, fun c2 => ⟨fun c8 => b2 _ ?_, fun c8 => k1 (Or.inr c8) _ _ _ _ _⟩⟩
      simp only [bb_M_make_2, oIload, oAload, oIstore, oInc, oConst, o2, oDup, oPop, oDupX1, oDupX2, oDup2, oIf, oIfN, oCmp, oCmpN, oSwitch, oGetR, oGetI, oPutI, oPutZ, oIald, oZald, oIast, oZast, oRetI, oRetZ, oRetV, oCall, oRecv, oMax, List.map_cons, List.map_nil, List.getElem?_cons_zero, List.getElem?_cons_succ, List.set_cons_zero, List.set_cons_succ, List.length_cons, List.length_nil, List.cons_append, List.nil_append, List.append_nil, List.take_succ_cons, List.take_zero, List.drop_succ_cons, List.drop_zero, List.reverse_cons, List.reverse_nil, Option.toList, Value.category, List.sum_cons, List.sum_nil, zk_0, zk_1, zk_12, zk_20, zk_23, zk_27, zn_2, zn_3, zn_4, zn_5, zn_6, zn_7, zn_8, zn_9, zn_10, zn_11, zn_13, zn_14, zn_15, zn_16, zn_17, zn_18, zn_19, zn_21, zn_22, zn_24, zn_25, zn_26, zn_28, zn_29, zn_30, zn_31, zn_32, zn_33, zn_34, zn_35, zn_36, zn_37, zn_38, zn_39, zn_40, zn_41, zn_42, zn_43, zn_44, zn_45, zn_46, Nat.reduceAdd, Nat.reduceSub, Nat.reduceLeDiff, true_and, and_true]
      exact k3 _ _ _ _ _ _ e2 (by rw [if_neg (fun q => q.elim c2 c8)])
    · simp only [oIload, oAload, oIstore, oInc, oConst, o2, oDup, oPop, oDupX1, oDupX2, oDup2, oIf, oIfN, oCmp, oCmpN, oSwitch, oGetR, oGetI, oPutI, oPutZ, oIald, oZald, oIast, oZast, oRetI, oRetZ, oRetV, oCall, oRecv, oMax, List.map_cons, List.map_nil, List.getElem?_cons_zero, List.getElem?_cons_succ, List.set_cons_zero, List.set_cons_succ, List.length_cons, List.length_nil, List.cons_append, List.nil_append, List.append_nil, List.take_succ_cons, List.take_zero, List.drop_succ_cons, List.drop_zero, List.reverse_cons, List.reverse_nil, Option.toList, Value.category, List.sum_cons, List.sum_nil, zk_0, zk_1, zk_12, zk_20, zk_23, zk_27, zn_2, zn_3, zn_4, zn_5, zn_6, zn_7, zn_8, zn_9, zn_10, zn_11, zn_13, zn_14, zn_15, zn_16, zn_17, zn_18, zn_19, zn_21, zn_22, zn_24, zn_25, zn_26, zn_28, zn_29, zn_30, zn_31, zn_32, zn_33, zn_34, zn_35, zn_36, zn_37, zn_38, zn_39, zn_40, zn_41, zn_42, zn_43, zn_44, zn_45, zn_46, Nat.reduceAdd, Nat.reduceSub, Nat.reduceLeDiff, true_and, and_true]
      have e2 := fun q => e2 ((mHS_k kk hk2).mpr q)
      refine ⟨fun _ => k4 _ _ _ _ _ (fun q => absurd (by unfold yHs; omega) e2) (fun q => absurd (by unfold yHs; omega) e2), fun q => absurd trivial q⟩
