/-! the reference copies one statement -/
section SPD
variable {l : Launch} {d : Nat} {g : zM} {r : Option Value → zM → Prop}
set_option maxHeartbeats 4000000 in
theorem sp_M_push {q : Nat} {x1 x2 x3 x4 : Int32} (hq : g 27 8 = nI q) (hq6 : q < 64) (h : ∀ G, (∀ k, k ≠ 27 → k ≠ 34 → G k = g k) → (∀ j, j ≠ 8 → G 27 j = g 27 j) → G 27 8 = nI (q + 1) → (∀ x, x < 4 * q → G 34 x = g 34 x) → G 34 (4 * q) = x1 → G 34 (4 * q + 1) = x2 → G 34 (4 * q + 2) = x3 → G 34 (4 * q + 3) = x4 → r none G) : qs_M_push l (d + 1) [.ref 27, .int x1, .int x2, .int x3, .int x4] g r := by
  have e4 : (4 : Int32) * nI q = nI (4 * q) := pk_mul 4 q
  have a1 : nI (4 * q) + 1 = nI (4 * q + 1) := nI_add _ 1
  have a2 : nI (4 * q) + 2 = nI (4 * q + 2) := nI_add _ 2
  have a3 : nI (4 * q) + 3 = nI (4 * q + 3) := nI_add _ 3
  refine ss_M_push fun K b0 => ?_
  refine b0 _ ?_
  simp only [bb_M_push_0, oIload, oAload, oIstore, oInc, oConst, o2, oDup, oPop, oDupX1, oDupX2, oDup2, oIf, oIfN, oCmp, oCmpN, oSwitch, oGetR, oGetI, oPutI, oPutZ, oIald, oZald, oIast, oZast, oRetI, oRetZ, oRetV, oCall, oRecv, oMax, List.map_cons, List.map_nil, List.getElem?_cons_zero, List.getElem?_cons_succ, List.set_cons_zero, List.set_cons_succ, List.length_cons, List.length_nil, List.cons_append, List.nil_append, List.append_nil, List.take_succ_cons, List.take_zero, List.drop_succ_cons, List.drop_zero, List.reverse_cons, List.reverse_nil, Option.toList, Value.category, List.sum_cons, List.sum_nil, zk_0, zk_1, zk_12, zk_20, zk_23, zk_27, zn_2, zn_3, zn_4, zn_5, zn_6, zn_7, zn_8, zn_9, zn_10, zn_11, zn_13, zn_14, zn_15, zn_16, zn_17, zn_18, zn_19, zn_21, zn_22, zn_24, zn_25, zn_26, zn_28, zn_29, zn_30, zn_31, zn_32, zn_33, zn_34, zn_35, zn_36, zn_37, zn_38, zn_39, zn_40, zn_41, zn_42, zn_43, zn_44, zn_45, zn_46, Nat.reduceAdd, Nat.reduceSub, Nat.reduceLeDiff, true_and, and_true]
  rw [hq, e4]
  refine ⟨4 * q, rfl, by omega, ?_⟩
  rw [zU_ne _ _ _ _ (by omega), hq, e4, a1]
  refine ⟨4 * q + 1, rfl, by omega, ?_⟩
  rw [zU_ne _ _ _ _ (by omega), zU_ne _ _ _ _ (by omega), hq, e4, a2]
  refine ⟨4 * q + 2, rfl, by omega, ?_⟩
  rw [zU_ne _ _ _ _ (by omega), zU_ne _ _ _ _ (by omega), zU_ne _ _ _ _ (by omega), hq, e4, a3]
  refine ⟨4 * q + 3, rfl, by omega, ?_⟩
  rw [zU_ne _ _ _ _ (by omega), zU_ne _ _ _ _ (by omega), zU_ne _ _ _ _ (by omega), zU_ne _ _ _ _ (by omega), hq, nI_1]
  refine h _ (fun k h1 h2 => ?_) (fun j hj => ?_) (zU_at _ _ _ _) (fun x hx => ?_) ?_ ?_ ?_ ?_
  · rw [zU_ne _ _ _ _ h1, zU_ne _ _ _ _ h2, zU_ne _ _ _ _ h2, zU_ne _ _ _ _ h2, zU_ne _ _ _ _ h2]
  · rw [zU_off _ _ _ _ hj, zU_ne _ _ _ _ (by omega), zU_ne _ _ _ _ (by omega), zU_ne _ _ _ _ (by omega), zU_ne _ _ _ _ (by omega)]
  · rw [zU_ne _ _ _ _ (by omega), zU_off _ _ _ _ (by omega), zU_off _ _ _ _ (by omega), zU_off _ _ _ _ (by omega), zU_off _ _ _ _ (by omega)]
  · rw [zU_ne _ _ _ _ (by omega), zU_off _ _ _ _ (by omega), zU_off _ _ _ _ (by omega), zU_off _ _ _ _ (by omega), zU_at]
  · rw [zU_ne _ _ _ _ (by omega), zU_off _ _ _ _ (by omega), zU_off _ _ _ _ (by omega), zU_at]
  · rw [zU_ne _ _ _ _ (by omega), zU_off _ _ _ _ (by omega), zU_at]
  · rw [zU_ne _ _ _ _ (by omega), zU_at]
end SPD
