set_option maxRecDepth 100000 in
set_option maxHeartbeats 4000000 in
theorem ss_R_has {l : Launch} {d : Nat} {a0 : Nat} {x1 : Int32} {x2 : Int32} {g : zM} {r : Option Value → zM → Prop} (h : ∀ K : Nat → zS → Prop, (∀ σ, bb_R_has_0 l d K r σ → K 0 σ) → (∀ σ, bb_R_has_1 l d K r σ → K 1 σ) → (∀ σ, bb_R_has_2 l d K r σ → K 2 σ) → K 0 ([some (.ref a0), some (.int x1), some (.int x2)], [], g)) : qs_R_has l (d + 1) [.ref a0, .int x1, .int x2] g r := by
  refine Sem.of (by decide) (by simp) (by simp [Value.category]) ?_
  intro p e s m args below meth c D cA ad hc hr hlk
  have hR : d + 1 ≤ (zRm (d + 1)).frames ∧ 64 * d + 64 ≤ (zRm (d + 1)).locals ∧ 0 ≤ (zRm (d + 1)).cells ∧ 0 ≤ (zRm (d + 1)).slots := by simp only [zRm]; omega
  refine h (fun j => zG p l e (zRm (d + 1)) s m args below meth c 3 D cA ad zT s.heap 0 0 (MQ below (zQc r D ad cA zT) args s 0 0 (zA zT ad)) (([0, 15, 16] : List Nat).getD j 0)) ?_ ?_ ?_
  · exact (sn_aload_n hc dd_R_has_0 rfl (sn_getR hc dd_R_has_1 fd_R_9 rfl (sn_iload_n hc dd_R_has_4 rfl (sn_iald hc zT31 dd_R_has_5 (sn_iload_n hc dd_R_has_6 rfl (sn_iand hc dd_R_has_7 (sn_if_eq hc dd_R_has_8 (by decide) (fun _ h => h) (sn_iconst hc dd_R_has_11 (by decide) (sn_goto hc dd_R_has_12 (by decide) (fun _ h => h))))))))))
  · exact (sn_iconst hc dd_R_has_15 (by decide) (fun _ h => h))
  · exact (sn_retZ hc hr hlk dd_R_has_16)
set_option maxRecDepth 100000 in
set_option maxHeartbeats 4000000 in
theorem ss_X_unknown {l : Launch} {d : Nat} {a0 : Nat} {g : zM} {r : Option Value → zM → Prop} (h : ∀ K : Nat → zS → Prop, (∀ σ, bb_X_unknown_0 l d K r σ → K 0 σ) → K 0 ([some (.ref a0)], [], g)) : qs_X_unknown l (d + 1) [.ref a0] g r := by
  refine Sem.of (by decide) (by simp) (by simp [Value.category]) ?_
  intro p e s m args below meth c D cA ad hc hr hlk
  have hR : d + 1 ≤ (zRm (d + 1)).frames ∧ 64 * d + 64 ≤ (zRm (d + 1)).locals ∧ 0 ≤ (zRm (d + 1)).cells ∧ 0 ≤ (zRm (d + 1)).slots := by simp only [zRm]; omega
  refine h (fun j => zG p l e (zRm (d + 1)) s m args below meth c 1 D cA ad zT s.heap 0 0 (MQ below (zQc r D ad cA zT) args s 0 0 (zA zT ad)) (([0] : List Nat).getD j 0)) ?_
  · exact (sn_aload_n hc dd_X_unknown_0 rfl (sn_getR hc dd_X_unknown_1 fd_X_19 rfl (sn_getI hc dd_X_unknown_4 fd_X_121 rfl (sn_retI hc hr hlk dd_X_unknown_7))))
set_option maxRecDepth 100000 in
set_option maxHeartbeats 4000000 in
theorem ss_X_over {l : Launch} {d : Nat} {a0 : Nat} {g : zM} {r : Option Value → zM → Prop} (h : ∀ K : Nat → zS → Prop, (∀ σ, bb_X_over_0 l d K r σ → K 0 σ) → K 0 ([some (.ref a0)], [], g)) : qs_X_over l (d + 1) [.ref a0] g r := by
  refine Sem.of (by decide) (by simp) (by simp [Value.category]) ?_
  intro p e s m args below meth c D cA ad hc hr hlk
  have hR : d + 1 ≤ (zRm (d + 1)).frames ∧ 64 * d + 64 ≤ (zRm (d + 1)).locals ∧ 0 ≤ (zRm (d + 1)).cells ∧ 0 ≤ (zRm (d + 1)).slots := by simp only [zRm]; omega
  refine h (fun j => zG p l e (zRm (d + 1)) s m args below meth c 1 D cA ad zT s.heap 0 0 (MQ below (zQc r D ad cA zT) args s 0 0 (zA zT ad)) (([0] : List Nat).getD j 0)) ?_
  · exact (sn_aload_n hc dd_X_over_0 rfl (sn_getR hc dd_X_over_1 fd_X_19 rfl (sn_getI hc dd_X_over_4 fd_X_103 rfl (sn_retZ hc hr hlk dd_X_over_7))))
set_option maxRecDepth 100000 in
set_option maxHeartbeats 4000000 in
theorem ss_X_hasNumber {l : Launch} {d : Nat} {x0 : Int32} {g : zM} {r : Option Value → zM → Prop} (h : ∀ K : Nat → zS → Prop, (∀ σ, bb_X_hasNumber_0 l d K r σ → K 0 σ) → (∀ σ, bb_X_hasNumber_1 l d K r σ → K 1 σ) → (∀ σ, bb_X_hasNumber_2 l d K r σ → K 2 σ) → (∀ σ, bb_X_hasNumber_3 l d K r σ → K 3 σ) → K 0 ([some (.int x0)], [], g)) : qs_X_hasNumber l (d + 1) [.int x0] g r := by
  refine Sem.of (by decide) (by simp) (by simp [Value.category]) ?_
  intro p e s m args below meth c D cA ad hc hr hlk
  have hR : d + 1 ≤ (zRm (d + 1)).frames ∧ 64 * d + 64 ≤ (zRm (d + 1)).locals ∧ 0 ≤ (zRm (d + 1)).cells ∧ 0 ≤ (zRm (d + 1)).slots := by simp only [zRm]; omega
  refine h (fun j => zG p l e (zRm (d + 1)) s m args below meth c 1 D cA ad zT s.heap 0 0 (MQ below (zQc r D ad cA zT) args s 0 0 (zA zT ad)) (([0, 29, 33, 34] : List Nat).getD j 0)) ?_ ?_ ?_ ?_
  · exact (sn_iload_n hc dd_X_hasNumber_0 rfl (sn_iconst hc dd_X_hasNumber_1 (by decide) (sn_icmp_eq hc dd_X_hasNumber_2 (by decide) (fun _ h => h) (sn_iload_n hc dd_X_hasNumber_5 rfl (sn_bipush hc dd_X_hasNumber_6 (by decide) (sn_icmp_eq hc dd_X_hasNumber_8 (by decide) (fun _ h => h) (sn_iload_n hc dd_X_hasNumber_11 rfl (sn_bipush hc dd_X_hasNumber_12 (by decide) (sn_icmp_eq hc dd_X_hasNumber_14 (by decide) (fun _ h => h) (sn_iload_n hc dd_X_hasNumber_17 rfl (sn_bipush hc dd_X_hasNumber_18 (by decide) (sn_icmp_eq hc dd_X_hasNumber_20 (by decide) (fun _ h => h) (sn_iload_n hc dd_X_hasNumber_23 rfl (sn_bipush hc dd_X_hasNumber_24 (by decide) (sn_icmp_ne hc dd_X_hasNumber_26 (by decide) (fun _ h => h) (fun _ h => h))))))))))))))))
  · exact (sn_iconst hc dd_X_hasNumber_29 (by decide) (sn_goto hc dd_X_hasNumber_30 (by decide) (fun _ h => h)))
  · exact (sn_iconst hc dd_X_hasNumber_33 (by decide) (fun _ h => h))
  · exact (sn_retZ hc hr hlk dd_X_hasNumber_34)
set_option maxRecDepth 100000 in
set_option maxHeartbeats 4000000 in
theorem ss_X_partsOf {l : Launch} {d : Nat} {x0 : Int32} {g : zM} {r : Option Value → zM → Prop} (h : ∀ K : Nat → zS → Prop, (∀ σ, bb_X_partsOf_0 l d K r σ → K 0 σ) → (∀ σ, bb_X_partsOf_1 l d K r σ → K 1 σ) → (∀ σ, bb_X_partsOf_2 l d K r σ → K 2 σ) → (∀ σ, bb_X_partsOf_3 l d K r σ → K 3 σ) → K 0 ([some (.int x0)], [], g)) : qs_X_partsOf l (d + 1) [.int x0] g r := by
  refine Sem.of (by decide) (by simp) (by simp [Value.category]) ?_
  intro p e s m args below meth c D cA ad hc hr hlk
  have hR : d + 1 ≤ (zRm (d + 1)).frames ∧ 64 * d + 64 ≤ (zRm (d + 1)).locals ∧ 0 ≤ (zRm (d + 1)).cells ∧ 0 ≤ (zRm (d + 1)).slots := by simp only [zRm]; omega
  refine h (fun j => zG p l e (zRm (d + 1)) s m args below meth c 1 D cA ad zT s.heap 0 0 (MQ below (zQc r D ad cA zT) args s 0 0 (zA zT ad)) (([0, 44, 46, 48] : List Nat).getD j 0)) ?_ ?_ ?_ ?_
  · exact (sn_iload_n hc dd_X_partsOf_0 rfl (sn_tsw hc dd_X_partsOf_1 (by decide) (tgt := 48) (by decide) ⟨by decide, ⟨44, by decide, (fun _ h => h)⟩, ⟨by decide, ⟨44, by decide, (fun _ h => h)⟩, ⟨by decide, ⟨46, by decide, (fun _ h => h)⟩, ⟨by decide, ⟨44, by decide, (fun _ h => h)⟩, ⟨by decide, ⟨46, by decide, (fun _ h => h)⟩, ⟨by decide, ⟨46, by decide, (fun _ h => h)⟩, ⟨by decide, ⟨46, by decide, (fun _ h => h)⟩, trivial⟩⟩⟩⟩⟩⟩⟩ (fun _ h => h)))
  · exact (sn_iconst hc dd_X_partsOf_44 (by decide) (sn_retI hc hr hlk dd_X_partsOf_45))
  · exact (sn_iconst hc dd_X_partsOf_46 (by decide) (sn_retI hc hr hlk dd_X_partsOf_47))
  · exact (sn_iconst hc dd_X_partsOf_48 (by decide) (sn_retI hc hr hlk dd_X_partsOf_49))
set_option maxRecDepth 100000 in
set_option maxHeartbeats 4000000 in
theorem ss_X_numberFits {l : Launch} {d : Nat} {x0 : Int32} {x1 : Int32} {g : zM} {r : Option Value → zM → Prop} (h : ∀ K : Nat → zS → Prop, (∀ σ, bb_X_numberFits_0 l d K r σ → K 0 σ) → (∀ σ, bb_X_numberFits_1 l d K r σ → K 1 σ) → (∀ σ, bb_X_numberFits_2 l d K r σ → K 2 σ) → (∀ σ, bb_X_numberFits_3 l d K r σ → K 3 σ) → (∀ σ, bb_X_numberFits_4 l d K r σ → K 4 σ) → (∀ σ, bb_X_numberFits_5 l d K r σ → K 5 σ) → (∀ σ, bb_X_numberFits_6 l d K r σ → K 6 σ) → (∀ σ, bb_X_numberFits_7 l d K r σ → K 7 σ) → (∀ σ, bb_X_numberFits_8 l d K r σ → K 8 σ) → (∀ σ, bb_X_numberFits_9 l d K r σ → K 9 σ) → (∀ σ, bb_X_numberFits_10 l d K r σ → K 10 σ) → K 0 ([some (.int x0), some (.int x1)], [], g)) : qs_X_numberFits l (d + 1) [.int x0, .int x1] g r := by
  refine Sem.of (by decide) (by simp) (by simp [Value.category]) ?_
  intro p e s m args below meth c D cA ad hc hr hlk
  have hR : d + 1 ≤ (zRm (d + 1)).frames ∧ 64 * d + 64 ≤ (zRm (d + 1)).locals ∧ 0 ≤ (zRm (d + 1)).cells ∧ 0 ≤ (zRm (d + 1)).slots := by simp only [zRm]; omega
  refine h (fun j => zG p l e (zRm (d + 1)) s m args below meth c 2 D cA ad zT s.heap 0 0 (MQ below (zQc r D ad cA zT) args s 0 0 (zA zT ad)) (([0, 52, 67, 68, 69, 83, 84, 85, 98, 99, 100] : List Nat).getD j 0)) ?_ ?_ ?_ ?_ ?_ ?_ ?_ ?_ ?_ ?_ ?_
  · exact (sn_iload_n hc dd_X_numberFits_0 rfl (sn_tsw hc dd_X_numberFits_1 (by decide) (tgt := 100) (by decide) ⟨by decide, ⟨52, by decide, (fun _ h => h)⟩, ⟨by decide, ⟨100, by decide, (fun _ h => h)⟩, ⟨by decide, ⟨100, by decide, (fun _ h => h)⟩, ⟨by decide, ⟨100, by decide, (fun _ h => h)⟩, ⟨by decide, ⟨69, by decide, (fun _ h => h)⟩, ⟨by decide, ⟨69, by decide, (fun _ h => h)⟩, ⟨by decide, ⟨52, by decide, (fun _ h => h)⟩, ⟨by decide, ⟨100, by decide, (fun _ h => h)⟩, ⟨by decide, ⟨85, by decide, (fun _ h => h)⟩, trivial⟩⟩⟩⟩⟩⟩⟩⟩⟩ (fun _ h => h)))
  · exact (sn_iload_n hc dd_X_numberFits_52 rfl (sn_iconst hc dd_X_numberFits_53 (by decide) (sn_icmp_lt hc dd_X_numberFits_54 (by decide) (fun _ h => h) (sn_iload_n hc dd_X_numberFits_57 rfl (sn_bipush hc dd_X_numberFits_58 (by decide) (sn_icmp_ge hc dd_X_numberFits_60 (by decide) (fun _ h => h) (sn_iconst hc dd_X_numberFits_63 (by decide) (sn_goto hc dd_X_numberFits_64 (by decide) (fun _ h => h)))))))))
  · exact (sn_iconst hc dd_X_numberFits_67 (by decide) (fun _ h => h))
  · exact (sn_retZ hc hr hlk dd_X_numberFits_68)
  · exact (sn_iload_n hc dd_X_numberFits_69 rfl (sn_if_lt hc dd_X_numberFits_70 (by decide) (fun _ h => h) (sn_iload_n hc dd_X_numberFits_73 rfl (sn_bipush hc dd_X_numberFits_74 (by decide) (sn_icmp_ge hc dd_X_numberFits_76 (by decide) (fun _ h => h) (sn_iconst hc dd_X_numberFits_79 (by decide) (sn_goto hc dd_X_numberFits_80 (by decide) (fun _ h => h))))))))
  · exact (sn_iconst hc dd_X_numberFits_83 (by decide) (fun _ h => h))
  · exact (sn_retZ hc hr hlk dd_X_numberFits_84)
  · exact (sn_iload_n hc dd_X_numberFits_85 rfl (sn_if_lt hc dd_X_numberFits_86 (by decide) (fun _ h => h) (sn_iload_n hc dd_X_numberFits_89 rfl (sn_iconst hc dd_X_numberFits_90 (by decide) (sn_icmp_gt hc dd_X_numberFits_91 (by decide) (fun _ h => h) (sn_iconst hc dd_X_numberFits_94 (by decide) (sn_goto hc dd_X_numberFits_95 (by decide) (fun _ h => h))))))))
  · exact (sn_iconst hc dd_X_numberFits_98 (by decide) (fun _ h => h))
  · exact (sn_retZ hc hr hlk dd_X_numberFits_99)
  · exact (sn_iconst hc dd_X_numberFits_100 (by decide) (sn_retZ hc hr hlk dd_X_numberFits_101))
set_option maxRecDepth 100000 in
set_option maxHeartbeats 4000000 in
theorem ss_X_reached {l : Launch} {d : Nat} {x0 : Int32} {g : zM} {r : Option Value → zM → Prop} (h : ∀ K : Nat → zS → Prop, (∀ σ, bb_X_reached_0 l d K r σ → K 0 σ) → K 0 ([some (.int x0), none], [], g)) : qs_X_reached l (d + 1) [.int x0] g r := by
  refine Sem.of (by decide) (by simp) (by simp [Value.category]) ?_
  intro p e s m args below meth c D cA ad hc hr hlk
  have hR : d + 1 ≤ (zRm (d + 1)).frames ∧ 64 * d + 64 ≤ (zRm (d + 1)).locals ∧ 0 ≤ (zRm (d + 1)).cells ∧ 0 ≤ (zRm (d + 1)).slots := by simp only [zRm]; omega
  refine h (fun j => zG p l e (zRm (d + 1)) s m args below meth c 2 D cA ad zT s.heap 0 0 (MQ below (zQc r D ad cA zT) args s 0 0 (zA zT ad)) (([0] : List Nat).getD j 0)) ?_
  · exact (sn_iload_n hc dd_X_reached_0 rfl (sn_iload_n hc dd_X_reached_1 rfl (sn_iconst hc dd_X_reached_2 (by decide) (sn_ishl hc dd_X_reached_3 (sn_ior hc dd_X_reached_4 (sn_istore_n hc dd_X_reached_5 rfl (by decide) (sn_iload_n hc dd_X_reached_6 rfl (sn_iload_n hc dd_X_reached_7 rfl (sn_iconst hc dd_X_reached_8 (by decide) (sn_ishl hc dd_X_reached_9 (sn_ior hc dd_X_reached_10 (sn_istore_n hc dd_X_reached_11 rfl (by decide) (sn_iload_n hc dd_X_reached_12 rfl (sn_iload_n hc dd_X_reached_13 rfl (sn_iconst hc dd_X_reached_14 (by decide) (sn_ishl hc dd_X_reached_15 (sn_ior hc dd_X_reached_16 (sn_istore_n hc dd_X_reached_17 rfl (by decide) (sn_iload_n hc dd_X_reached_18 rfl (sn_bipush hc dd_X_reached_19 (by decide) (sn_iand hc dd_X_reached_21 (sn_retI hc hr hlk dd_X_reached_22))))))))))))))))))))))
set_option maxRecDepth 100000 in
set_option maxHeartbeats 4000000 in
theorem ss_X_outsideTrap {l : Launch} {d : Nat} {x0 : Int32} {g : zM} {r : Option Value → zM → Prop} (h : ∀ K : Nat → zS → Prop, (∀ σ, bb_X_outsideTrap_0 l d K r σ → K 0 σ) → (∀ σ, bb_X_outsideTrap_1 l d K r σ → K 1 σ) → (∀ σ, bb_X_outsideTrap_2 l d K r σ → K 2 σ) → K 0 ([some (.int x0), none, none, none], [], g)) : qs_X_outsideTrap l (d + 1) [.int x0] g r := by
  refine Sem.of (by decide) (by simp) (by simp [Value.category]) ?_
  intro p e s m args below meth c D cA ad hc hr hlk
  have hR : d + 1 ≤ (zRm (d + 1)).frames ∧ 64 * d + 64 ≤ (zRm (d + 1)).locals ∧ 0 ≤ (zRm (d + 1)).cells ∧ 0 ≤ (zRm (d + 1)).slots := by simp only [zRm]; omega
  refine h (fun j => zG p l e (zRm (d + 1)) s m args below meth c 4 D cA ad zT s.heap 0 0 (MQ below (zQc r D ad cA zT) args s 0 0 (zA zT ad)) (([0, 14, 15] : List Nat).getD j 0)) ?_ ?_ ?_
  · exact (sn_iload_n hc dd_X_outsideTrap_0 rfl (sn_iconst hc dd_X_outsideTrap_1 (by decide) (sn_iand hc dd_X_outsideTrap_2 (sn_istore_n hc dd_X_outsideTrap_3 rfl (by decide) (sn_iload_n hc dd_X_outsideTrap_4 rfl (sn_iconst hc dd_X_outsideTrap_5 (by decide) (sn_iand hc dd_X_outsideTrap_6 (sn_if_eq hc dd_X_outsideTrap_7 (by decide) (fun _ h => h) (sn_iconst hc dd_X_outsideTrap_10 (by decide) (sn_goto hc dd_X_outsideTrap_11 (by decide) (fun _ h => h)))))))))))
  · exact (sn_iconst hc dd_X_outsideTrap_14 (by decide) (fun _ h => h))
  · exact (sn_istore_n hc dd_X_outsideTrap_15 rfl (by decide) (sn_iload_n hc dd_X_outsideTrap_16 rfl (sn_iconst hc dd_X_outsideTrap_17 (by decide) (sn_ishr hc dd_X_outsideTrap_18 (sn_bipush hc dd_X_outsideTrap_19 (by decide) (sn_iand hc dd_X_outsideTrap_21 (sn_bipush hc dd_X_outsideTrap_22 (by decide) (sn_iand hc dd_X_outsideTrap_24 (sn_istore_n hc dd_X_outsideTrap_25 rfl (by decide) (sn_iload_n hc dd_X_outsideTrap_26 rfl (sn_iload_n hc dd_X_outsideTrap_27 rfl (sn_ior hc dd_X_outsideTrap_28 (sn_iload_n hc dd_X_outsideTrap_29 rfl (sn_ior hc dd_X_outsideTrap_30 (sn_retI hc hr hlk dd_X_outsideTrap_31)))))))))))))))
set_option maxRecDepth 100000 in
set_option maxHeartbeats 4000000 in
theorem ss_S_has {l : Launch} {d : Nat} {a0 : Nat} {x1 : Int32} {g : zM} {r : Option Value → zM → Prop} (h : ∀ K : Nat → zS → Prop, (∀ σ, bb_S_has_0 l d K r σ → K 0 σ) → (∀ σ, bb_S_has_1 l d K r σ → K 1 σ) → (∀ σ, bb_S_has_2 l d K r σ → K 2 σ) → K 0 ([some (.ref a0), some (.int x1)], [], g)) : qs_S_has l (d + 1) [.ref a0, .int x1] g r := by
  refine Sem.of (by decide) (by simp) (by simp [Value.category]) ?_
  intro p e s m args below meth c D cA ad hc hr hlk
  have hR : d + 1 ≤ (zRm (d + 1)).frames ∧ 64 * d + 64 ≤ (zRm (d + 1)).locals ∧ 0 ≤ (zRm (d + 1)).cells ∧ 0 ≤ (zRm (d + 1)).slots := by simp only [zRm]; omega
  refine h (fun j => zG p l e (zRm (d + 1)) s m args below meth c 2 D cA ad zT s.heap 0 0 (MQ below (zQc r D ad cA zT) args s 0 0 (zA zT ad)) (([0, 16, 17] : List Nat).getD j 0)) ?_ ?_ ?_
  · exact (sn_iload_n hc dd_S_has_0 rfl (sn_if_lt hc dd_S_has_1 (by decide) (fun _ h => h) (sn_iload_n hc dd_S_has_4 rfl (sn_aload_n hc dd_S_has_5 rfl (sn_getI hc dd_S_has_6 fd_S_43 rfl (sn_icmp_ge hc dd_S_has_9 (by decide) (fun _ h => h) (sn_iconst hc dd_S_has_12 (by decide) (sn_goto hc dd_S_has_13 (by decide) (fun _ h => h)))))))))
  · exact (sn_iconst hc dd_S_has_16 (by decide) (fun _ h => h))
  · exact (sn_retZ hc hr hlk dd_S_has_17)
set_option maxRecDepth 100000 in
set_option maxHeartbeats 4000000 in
theorem ss_S_haveParts {l : Launch} {d : Nat} {a0 : Nat} {x1 : Int32} {x2 : Int32} {x3 : Int32} {g : zM} {r : Option Value → zM → Prop} (h : ∀ K : Nat → zS → Prop, (∀ σ, bb_S_haveParts_0 l d K r σ → K 0 σ) → (∀ σ, bb_S_haveParts_1 l d K r σ → K 1 σ) → (∀ σ, bb_S_haveParts_2 l d K r σ → K 2 σ) → (∀ σ, bb_S_haveParts_3 l d K r σ → K 3 σ) → (∀ σ, bb_S_haveParts_4 l d K r σ → K 4 σ) → K 0 ([some (.ref a0), some (.int x1), some (.int x2), some (.int x3), none], [], g)) : qs_S_haveParts l (d + 1) [.ref a0, .int x1, .int x2, .int x3] g r := by
  refine Sem.of (by decide) (by simp) (by simp [Value.category]) ?_
  intro p e s m args below meth c D cA ad hc hr hlk
  have hR : d + 1 ≤ (zRm (d + 1)).frames ∧ 64 * d + 64 ≤ (zRm (d + 1)).locals ∧ 0 ≤ (zRm (d + 1)).cells ∧ 0 ≤ (zRm (d + 1)).slots := by simp only [zRm]; omega
  refine h (fun j => zG p l e (zRm (d + 1)) s m args below meth c 5 D cA ad zT s.heap 0 0 (MQ below (zQc r D ad cA zT) args s 0 0 (zA zT ad)) (([0, 20, 34, 38, 39] : List Nat).getD j 0)) ?_ ?_ ?_ ?_ ?_
  · exact (sn_iload_n hc dd_S_haveParts_0 rfl (sn_callS hc hR dd_S_haveParts_1 lk_S_47 st_X_partsOf cw_X_partsOf (sn_istore hc dd_S_haveParts_4 (by decide) (sn_iload hc dd_S_haveParts_6 (sn_iconst hc dd_S_haveParts_8 (by decide) (sn_icmp_lt hc dd_S_haveParts_9 (by decide) (fun _ h => h) (sn_aload_n hc dd_S_haveParts_12 rfl (sn_iload_n hc dd_S_haveParts_13 rfl (sn_callV hc hR dd_S_haveParts_14 lk_S_51 im_S_has se_S_has rfl cw_S_has (sn_if_eq hc dd_S_haveParts_17 (by decide) (fun _ h => h) (fun _ h => h)))))))))))
  · exact (sn_iload hc dd_S_haveParts_20 (sn_iconst hc dd_S_haveParts_22 (by decide) (sn_icmp_lt hc dd_S_haveParts_23 (by decide) (fun _ h => h) (sn_aload_n hc dd_S_haveParts_26 rfl (sn_iload_n hc dd_S_haveParts_27 rfl (sn_callV hc hR dd_S_haveParts_28 lk_S_51 im_S_has se_S_has rfl cw_S_has (sn_if_eq hc dd_S_haveParts_31 (by decide) (fun _ h => h) (fun _ h => h))))))))
  · exact (sn_iconst hc dd_S_haveParts_34 (by decide) (sn_goto hc dd_S_haveParts_35 (by decide) (fun _ h => h)))
  · exact (sn_iconst hc dd_S_haveParts_38 (by decide) (fun _ h => h))
  · exact (sn_retZ hc hr hlk dd_S_haveParts_39)
set_option maxRecDepth 100000 in
set_option maxHeartbeats 4000000 in
theorem ss_S_depthAround {l : Launch} {d : Nat} {a0 : Nat} {x1 : Int32} {x2 : Int32} {g : zM} {r : Option Value → zM → Prop} (h : ∀ K : Nat → zS → Prop, (∀ σ, bb_S_depthAround_0 l d K r σ → K 0 σ) → K 0 ([some (.ref a0), some (.int x1), some (.int x2)], [], g)) : qs_S_depthAround l (d + 1) [.ref a0, .int x1, .int x2] g r := by
  refine Sem.of (by decide) (by simp) (by simp [Value.category]) ?_
  intro p e s m args below meth c D cA ad hc hr hlk
  have hR : d + 1 ≤ (zRm (d + 1)).frames ∧ 64 * d + 64 ≤ (zRm (d + 1)).locals ∧ 0 ≤ (zRm (d + 1)).cells ∧ 0 ≤ (zRm (d + 1)).slots := by simp only [zRm]; omega
  refine h (fun j => zG p l e (zRm (d + 1)) s m args below meth c 3 D cA ad zT s.heap 0 0 (MQ below (zQc r D ad cA zT) args s 0 0 (zA zT ad)) (([0] : List Nat).getD j 0)) ?_
  · exact (sn_iconst hc dd_S_depthAround_0 (by decide) (sn_aload_n hc dd_S_depthAround_1 rfl (sn_aload_n hc dd_S_depthAround_2 rfl (sn_getR hc dd_S_depthAround_3 fd_S_27 rfl (sn_iload_n hc dd_S_depthAround_6 rfl (sn_callV hc hR dd_S_depthAround_7 lk_S_55 im_S_factOf se_S_factOf rfl cw_S_factOf (sn_aload_n hc dd_S_depthAround_10 rfl (sn_aload_n hc dd_S_depthAround_11 rfl (sn_getR hc dd_S_depthAround_12 fd_S_27 rfl (sn_iload_n hc dd_S_depthAround_15 rfl (sn_callV hc hR dd_S_depthAround_16 lk_S_55 im_S_factOf se_S_factOf rfl cw_S_factOf (sn_max hc hR dd_S_depthAround_19 (sn_iadd hc dd_S_depthAround_22 (sn_retI hc hr hlk dd_S_depthAround_23))))))))))))))
set_option maxRecDepth 100000 in
set_option maxHeartbeats 4000000 in
theorem ss_S_isRefused {l : Launch} {d : Nat} {a0 : Nat} {x1 : Int32} {g : zM} {r : Option Value → zM → Prop} (h : ∀ K : Nat → zS → Prop, (∀ σ, bb_S_isRefused_0 l d K r σ → K 0 σ) → (∀ σ, bb_S_isRefused_1 l d K r σ → K 1 σ) → (∀ σ, bb_S_isRefused_2 l d K r σ → K 2 σ) → (∀ σ, bb_S_isRefused_3 l d K r σ → K 3 σ) → K 0 ([some (.ref a0), some (.int x1)], [], g)) : qs_S_isRefused l (d + 1) [.ref a0, .int x1] g r := by
  refine Sem.of (by decide) (by simp) (by simp [Value.category]) ?_
  intro p e s m args below meth c D cA ad hc hr hlk
  have hR : d + 1 ≤ (zRm (d + 1)).frames ∧ 64 * d + 64 ≤ (zRm (d + 1)).locals ∧ 0 ≤ (zRm (d + 1)).cells ∧ 0 ≤ (zRm (d + 1)).slots := by simp only [zRm]; omega
  refine h (fun j => zG p l e (zRm (d + 1)) s m args below meth c 2 D cA ad zT s.heap 0 0 (MQ below (zQc r D ad cA zT) args s 0 0 (zA zT ad)) (([0, 41, 45, 46] : List Nat).getD j 0)) ?_ ?_ ?_ ?_
  · exact (sn_aload_n hc dd_S_isRefused_0 rfl (sn_getR hc dd_S_isRefused_1 fd_S_39 rfl (sn_iload_n hc dd_S_isRefused_4 rfl (sn_zald hc zT31 dd_S_isRefused_5 (sn_if_ne hc dd_S_isRefused_6 (by decide) (fun _ h => h) (sn_aload_n hc dd_S_isRefused_9 rfl (sn_getR hc dd_S_isRefused_10 fd_S_36 rfl (sn_iload_n hc dd_S_isRefused_13 rfl (sn_iald hc zT31 dd_S_isRefused_14 (sn_if_gt hc dd_S_isRefused_15 (by decide) (fun _ h => h) (sn_aload_n hc dd_S_isRefused_18 rfl (sn_getR hc dd_S_isRefused_19 fd_S_30 rfl (sn_iload_n hc dd_S_isRefused_22 rfl (sn_iald hc zT31 dd_S_isRefused_23 (sn_sipush hc dd_S_isRefused_24 (by decide) (sn_icmp_gt hc dd_S_isRefused_27 (by decide) (fun _ h => h) (sn_aload_n hc dd_S_isRefused_30 rfl (sn_getR hc dd_S_isRefused_31 fd_S_33 rfl (sn_iload_n hc dd_S_isRefused_34 rfl (sn_iald hc zT31 dd_S_isRefused_35 (sn_bipush hc dd_S_isRefused_36 (by decide) (sn_icmp_le hc dd_S_isRefused_38 (by decide) (fun _ h => h) (fun _ h => h)))))))))))))))))))))))
  · exact (sn_iconst hc dd_S_isRefused_41 (by decide) (sn_goto hc dd_S_isRefused_42 (by decide) (fun _ h => h)))
  · exact (sn_iconst hc dd_S_isRefused_45 (by decide) (fun _ h => h))
  · exact (sn_retZ hc hr hlk dd_S_isRefused_46)
set_option maxRecDepth 100000 in
set_option maxHeartbeats 4000000 in
theorem ss_S_add {l : Launch} {d : Nat} {a0 : Nat} {x1 : Int32} {x2 : Int32} {x3 : Int32} {x4 : Int32} {g : zM} {r : Option Value → zM → Prop} (h : ∀ K : Nat → zS → Prop, (∀ σ, bb_S_add_0 l d K r σ → K 0 σ) → (∀ σ, bb_S_add_1 l d K r σ → K 1 σ) → (∀ σ, bb_S_add_2 l d K r σ → K 2 σ) → (∀ σ, bb_S_add_3 l d K r σ → K 3 σ) → (∀ σ, bb_S_add_4 l d K r σ → K 4 σ) → (∀ σ, bb_S_add_5 l d K r σ → K 5 σ) → (∀ σ, bb_S_add_6 l d K r σ → K 6 σ) → (∀ σ, bb_S_add_7 l d K r σ → K 7 σ) → (∀ σ, bb_S_add_8 l d K r σ → K 8 σ) → (∀ σ, bb_S_add_9 l d K r σ → K 9 σ) → K 0 ([some (.ref a0), some (.int x1), some (.int x2), some (.int x3), some (.int x4), none, none], [], g)) : qs_S_add l (d + 1) [.ref a0, .int x1, .int x2, .int x3, .int x4] g r := by
  refine Sem.of (by decide) (by simp) (by simp [Value.category]) ?_
  intro p e s m args below meth c D cA ad hc hr hlk
  have hR : d + 1 ≤ (zRm (d + 1)).frames ∧ 64 * d + 64 ≤ (zRm (d + 1)).locals ∧ 0 ≤ (zRm (d + 1)).cells ∧ 0 ≤ (zRm (d + 1)).slots := by simp only [zRm]; omega
  refine h (fun j => zG p l e (zRm (d + 1)) s m args below meth c 7 D cA ad zT s.heap 0 0 (MQ below (zQc r D ad cA zT) args s 0 0 (zA zT ad)) (([0, 15, 17, 141, 142, 205, 222, 241, 245, 246] : List Nat).getD j 0)) ?_ ?_ ?_ ?_ ?_ ?_ ?_ ?_ ?_ ?_
  · exact (sn_aload_n hc dd_S_add_0 rfl (sn_getI hc dd_S_add_1 fd_S_43 rfl (sn_istore hc dd_S_add_4 (by decide) (sn_iload_n hc dd_S_add_6 rfl (sn_iconst hc dd_S_add_7 (by decide) (sn_icmp_ne hc dd_S_add_8 (by decide) (fun _ h => h) (sn_iload_n hc dd_S_add_11 rfl (sn_goto hc dd_S_add_12 (by decide) (fun _ h => h)))))))))
  · exact (sn_iload hc dd_S_add_15 (fun _ h => h))
  · exact (sn_istore hc dd_S_add_17 (by decide) (sn_aload_n hc dd_S_add_19 rfl (sn_getR hc dd_S_add_20 fd_S_9 rfl (sn_iload hc dd_S_add_23 (sn_iload_n hc dd_S_add_25 rfl (sn_iast hc zT31 dd_S_add_26 (sn_aload_n hc dd_S_add_27 rfl (sn_getR hc dd_S_add_28 fd_S_15 rfl (sn_iload hc dd_S_add_31 (sn_iload_n hc dd_S_add_33 rfl (sn_iast hc zT31 dd_S_add_34 (sn_aload_n hc dd_S_add_35 rfl (sn_getR hc dd_S_add_36 fd_S_18 rfl (sn_iload hc dd_S_add_39 (sn_iload_n hc dd_S_add_41 rfl (sn_iast hc zT31 dd_S_add_42 (sn_aload_n hc dd_S_add_43 rfl (sn_getR hc dd_S_add_44 fd_S_21 rfl (sn_iload hc dd_S_add_47 (sn_iload hc dd_S_add_49 (sn_iast hc zT31 dd_S_add_51 (sn_aload_n hc dd_S_add_52 rfl (sn_getR hc dd_S_add_53 fd_S_24 rfl (sn_iload hc dd_S_add_56 (sn_iload_n hc dd_S_add_58 rfl (sn_iload_n hc dd_S_add_59 rfl (sn_aload_n hc dd_S_add_60 rfl (sn_aload_n hc dd_S_add_61 rfl (sn_getR hc dd_S_add_62 fd_S_24 rfl (sn_iload_n hc dd_S_add_65 rfl (sn_callV hc hR dd_S_add_66 lk_S_55 im_S_factOf se_S_factOf rfl cw_S_factOf (sn_aload_n hc dd_S_add_69 rfl (sn_aload_n hc dd_S_add_70 rfl (sn_getR hc dd_S_add_71 fd_S_24 rfl (sn_iload hc dd_S_add_74 (sn_callV hc hR dd_S_add_76 lk_S_55 im_S_factOf se_S_factOf rfl cw_S_factOf (sn_callS hc hR dd_S_add_79 lk_S_65 st_S_codesOf cw_S_codesOf (sn_iast hc zT31 dd_S_add_82 (sn_aload_n hc dd_S_add_83 rfl (sn_getR hc dd_S_add_84 fd_S_27 rfl (sn_iload hc dd_S_add_87 (sn_aload_n hc dd_S_add_89 rfl (sn_iload_n hc dd_S_add_90 rfl (sn_iload hc dd_S_add_91 (sn_callV hc hR dd_S_add_93 lk_S_69 im_S_depthAround se_S_depthAround rfl cw_S_depthAround (sn_iast hc zT31 dd_S_add_96 (sn_aload_n hc dd_S_add_97 rfl (sn_getR hc dd_S_add_98 fd_S_30 rfl (sn_iload hc dd_S_add_101 (sn_iconst hc dd_S_add_103 (by decide) (sn_aload_n hc dd_S_add_104 rfl (sn_aload_n hc dd_S_add_105 rfl (sn_getR hc dd_S_add_106 fd_S_30 rfl (sn_iload_n hc dd_S_add_109 rfl (sn_callV hc hR dd_S_add_110 lk_S_55 im_S_factOf se_S_factOf rfl cw_S_factOf (sn_iadd hc dd_S_add_113 (sn_aload_n hc dd_S_add_114 rfl (sn_aload_n hc dd_S_add_115 rfl (sn_getR hc dd_S_add_116 fd_S_30 rfl (sn_iload hc dd_S_add_119 (sn_callV hc hR dd_S_add_121 lk_S_55 im_S_factOf se_S_factOf rfl cw_S_factOf (sn_iadd hc dd_S_add_124 (sn_iast hc zT31 dd_S_add_125 (sn_aload_n hc dd_S_add_126 rfl (sn_getR hc dd_S_add_127 fd_S_33 rfl (sn_iload hc dd_S_add_130 (sn_iload_n hc dd_S_add_132 rfl (sn_iconst hc dd_S_add_133 (by decide) (sn_icmp_ne hc dd_S_add_134 (by decide) (fun _ h => h) (sn_iconst hc dd_S_add_137 (by decide) (sn_goto hc dd_S_add_138 (by decide) (fun _ h => h))))))))))))))))))))))))))))))))))))))))))))))))))))))))))))))))))))))))
  · exact (sn_iconst hc dd_S_add_141 (by decide) (fun _ h => h))
  · exact (sn_aload_n hc dd_S_add_142 rfl (sn_aload_n hc dd_S_add_143 rfl (sn_getR hc dd_S_add_144 fd_S_33 rfl (sn_iload_n hc dd_S_add_147 rfl (sn_callV hc hR dd_S_add_148 lk_S_55 im_S_factOf se_S_factOf rfl cw_S_factOf (sn_iadd hc dd_S_add_151 (sn_aload_n hc dd_S_add_152 rfl (sn_aload_n hc dd_S_add_153 rfl (sn_getR hc dd_S_add_154 fd_S_33 rfl (sn_iload hc dd_S_add_157 (sn_callV hc hR dd_S_add_159 lk_S_55 im_S_factOf se_S_factOf rfl cw_S_factOf (sn_iadd hc dd_S_add_162 (sn_iast hc zT31 dd_S_add_163 (sn_aload_n hc dd_S_add_164 rfl (sn_getR hc dd_S_add_165 fd_S_36 rfl (sn_iload hc dd_S_add_168 (sn_aload_n hc dd_S_add_170 rfl (sn_iload_n hc dd_S_add_171 rfl (sn_iload_n hc dd_S_add_172 rfl (sn_iload_n hc dd_S_add_173 rfl (sn_iload hc dd_S_add_174 (sn_callV hc hR dd_S_add_176 lk_S_72 im_S_missingTrapsOf se_S_missingTrapsOf rfl cw_S_missingTrapsOf (sn_iast hc zT31 dd_S_add_179 (sn_aload_n hc dd_S_add_180 rfl (sn_getR hc dd_S_add_181 fd_S_39 rfl (sn_iload hc dd_S_add_184 (sn_iload_n hc dd_S_add_186 rfl (sn_iconst hc dd_S_add_187 (by decide) (sn_icmp_ne hc dd_S_add_188 (by decide) (fun _ h => h) (sn_aload_n hc dd_S_add_191 rfl (sn_aload_n hc dd_S_add_192 rfl (sn_getR hc dd_S_add_193 fd_S_24 rfl (sn_iload_n hc dd_S_add_196 rfl (sn_callV hc hR dd_S_add_197 lk_S_55 im_S_factOf se_S_factOf rfl cw_S_factOf (sn_iconst hc dd_S_add_200 (by decide) (sn_iand hc dd_S_add_201 (sn_if_ne hc dd_S_add_202 (by decide) (fun _ h => h) (fun _ h => h))))))))))))))))))))))))))))))))))))))
  · exact (sn_aload_n hc dd_S_add_205 rfl (sn_iload_n hc dd_S_add_206 rfl (sn_callV hc hR dd_S_add_207 lk_S_51 im_S_has se_S_has rfl cw_S_has (sn_if_eq hc dd_S_add_210 (by decide) (fun _ h => h) (sn_aload_n hc dd_S_add_213 rfl (sn_getR hc dd_S_add_214 fd_S_39 rfl (sn_iload_n hc dd_S_add_217 rfl (sn_zald hc zT31 dd_S_add_218 (sn_if_ne hc dd_S_add_219 (by decide) (fun _ h => h) (fun _ h => h))))))))))
  · exact (sn_aload_n hc dd_S_add_222 rfl (sn_iload hc dd_S_add_223 (sn_callV hc hR dd_S_add_225 lk_S_51 im_S_has se_S_has rfl cw_S_has (sn_if_eq hc dd_S_add_228 (by decide) (fun _ h => h) (sn_aload_n hc dd_S_add_231 rfl (sn_getR hc dd_S_add_232 fd_S_39 rfl (sn_iload hc dd_S_add_235 (sn_zald hc zT31 dd_S_add_237 (sn_if_eq hc dd_S_add_238 (by decide) (fun _ h => h) (fun _ h => h))))))))))
  · exact (sn_iconst hc dd_S_add_241 (by decide) (sn_goto hc dd_S_add_242 (by decide) (fun _ h => h)))
  · exact (sn_iconst hc dd_S_add_245 (by decide) (fun _ h => h))
  · exact (sn_zast hc zT31 dd_S_add_246 (sn_aload_n hc dd_S_add_247 rfl (sn_dup hc dd_S_add_248 (sn_getI hc dd_S_add_249 fd_S_43 rfl (sn_iconst hc dd_S_add_252 (by decide) (sn_iadd hc dd_S_add_253 (sn_putI hc dd_S_add_254 fp_S_43 rfl (sn_iload hc dd_S_add_257 (sn_retI hc hr hlk dd_S_add_259)))))))))
set_option maxRecDepth 100000 in
set_option maxHeartbeats 4000000 in
theorem ss_S_factOf {l : Launch} {d : Nat} {a0 : Nat} {a1 : Nat} {x2 : Int32} {g : zM} {r : Option Value → zM → Prop} (h : ∀ K : Nat → zS → Prop, (∀ σ, bb_S_factOf_0 l d K r σ → K 0 σ) → (∀ σ, bb_S_factOf_1 l d K r σ → K 1 σ) → (∀ σ, bb_S_factOf_2 l d K r σ → K 2 σ) → K 0 ([some (.ref a0), some (.ref a1), some (.int x2)], [], g)) : qs_S_factOf l (d + 1) [.ref a0, .ref a1, .int x2] g r := by
  refine Sem.of (by decide) (by simp) (by simp [Value.category]) ?_
  intro p e s m args below meth c D cA ad hc hr hlk
  have hR : d + 1 ≤ (zRm (d + 1)).frames ∧ 64 * d + 64 ≤ (zRm (d + 1)).locals ∧ 0 ≤ (zRm (d + 1)).cells ∧ 0 ≤ (zRm (d + 1)).slots := by simp only [zRm]; omega
  refine h (fun j => zG p l e (zRm (d + 1)) s m args below meth c 3 D cA ad zT s.heap 0 0 (MQ below (zQc r D ad cA zT) args s 0 0 (zA zT ad)) (([0, 14, 15] : List Nat).getD j 0)) ?_ ?_ ?_
  · exact (sn_aload_n hc dd_S_factOf_0 rfl (sn_iload_n hc dd_S_factOf_1 rfl (sn_callV hc hR dd_S_factOf_2 lk_S_51 im_S_has se_S_has rfl cw_S_has (sn_if_eq hc dd_S_factOf_5 (by decide) (fun _ h => h) (sn_aload_n hc dd_S_factOf_8 rfl (sn_iload_n hc dd_S_factOf_9 rfl (sn_iald hc zT31 dd_S_factOf_10 (sn_goto hc dd_S_factOf_11 (by decide) (fun _ h => h)))))))))
  · exact (sn_iconst hc dd_S_factOf_14 (by decide) (fun _ h => h))
  · exact (sn_retI hc hr hlk dd_S_factOf_15)
set_option maxRecDepth 100000 in
set_option maxHeartbeats 4000000 in
theorem ss_S_missingTrapsOf {l : Launch} {d : Nat} {a0 : Nat} {x1 : Int32} {x2 : Int32} {x3 : Int32} {x4 : Int32} {g : zM} {r : Option Value → zM → Prop} (h : ∀ K : Nat → zS → Prop, (∀ σ, bb_S_missingTrapsOf_0 l d K r σ → K 0 σ) → (∀ σ, bb_S_missingTrapsOf_1 l d K r σ → K 1 σ) → (∀ σ, bb_S_missingTrapsOf_2 l d K r σ → K 2 σ) → (∀ σ, bb_S_missingTrapsOf_3 l d K r σ → K 3 σ) → K 0 ([some (.ref a0), some (.int x1), some (.int x2), some (.int x3), some (.int x4), none], [], g)) : qs_S_missingTrapsOf l (d + 1) [.ref a0, .int x1, .int x2, .int x3, .int x4] g r := by
  refine Sem.of (by decide) (by simp) (by simp [Value.category]) ?_
  intro p e s m args below meth c D cA ad hc hr hlk
  have hR : d + 1 ≤ (zRm (d + 1)).frames ∧ 64 * d + 64 ≤ (zRm (d + 1)).locals ∧ 0 ≤ (zRm (d + 1)).cells ∧ 0 ≤ (zRm (d + 1)).slots := by simp only [zRm]; omega
  refine h (fun j => zG p l e (zRm (d + 1)) s m args below meth c 6 D cA ad zT s.heap 0 0 (MQ below (zQc r D ad cA zT) args s 0 0 (zA zT ad)) (([0, 10, 52, 54] : List Nat).getD j 0)) ?_ ?_ ?_ ?_
  · exact (sn_iload_n hc dd_S_missingTrapsOf_0 rfl (sn_bipush hc dd_S_missingTrapsOf_1 (by decide) (sn_icmp_ne hc dd_S_missingTrapsOf_3 (by decide) (fun _ h => h) (sn_iload_n hc dd_S_missingTrapsOf_6 rfl (sn_iconst hc dd_S_missingTrapsOf_7 (by decide) (sn_iadd hc dd_S_missingTrapsOf_8 (sn_retI hc hr hlk dd_S_missingTrapsOf_9)))))))
  · exact (sn_aload_n hc dd_S_missingTrapsOf_10 rfl (sn_aload_n hc dd_S_missingTrapsOf_11 rfl (sn_getR hc dd_S_missingTrapsOf_12 fd_S_36 rfl (sn_iload_n hc dd_S_missingTrapsOf_15 rfl (sn_callV hc hR dd_S_missingTrapsOf_16 lk_S_55 im_S_factOf se_S_factOf rfl cw_S_factOf (sn_aload_n hc dd_S_missingTrapsOf_19 rfl (sn_aload_n hc dd_S_missingTrapsOf_20 rfl (sn_getR hc dd_S_missingTrapsOf_21 fd_S_36 rfl (sn_iload hc dd_S_missingTrapsOf_24 (sn_callV hc hR dd_S_missingTrapsOf_26 lk_S_55 im_S_factOf se_S_factOf rfl cw_S_factOf (sn_max hc hR dd_S_missingTrapsOf_29 (sn_istore hc dd_S_missingTrapsOf_32 (by decide) (sn_iload_n hc dd_S_missingTrapsOf_34 rfl (sn_bipush hc dd_S_missingTrapsOf_35 (by decide) (sn_icmp_ne hc dd_S_missingTrapsOf_37 (by decide) (fun _ h => h) (sn_iload hc dd_S_missingTrapsOf_40 (sn_if_le hc dd_S_missingTrapsOf_42 (by decide) (fun _ h => h) (sn_iload hc dd_S_missingTrapsOf_45 (sn_iconst hc dd_S_missingTrapsOf_47 (by decide) (sn_isub hc dd_S_missingTrapsOf_48 (sn_goto hc dd_S_missingTrapsOf_49 (by decide) (fun _ h => h))))))))))))))))))))))
  · exact (sn_iload hc dd_S_missingTrapsOf_52 (fun _ h => h))
  · exact (sn_retI hc hr hlk dd_S_missingTrapsOf_54)
set_option maxRecDepth 100000 in
set_option maxHeartbeats 4000000 in
theorem ss_S_codesOf {l : Launch} {d : Nat} {x0 : Int32} {x1 : Int32} {x2 : Int32} {x3 : Int32} {g : zM} {r : Option Value → zM → Prop} (h : ∀ K : Nat → zS → Prop, (∀ σ, bb_S_codesOf_0 l d K r σ → K 0 σ) → (∀ σ, bb_S_codesOf_1 l d K r σ → K 1 σ) → (∀ σ, bb_S_codesOf_2 l d K r σ → K 2 σ) → (∀ σ, bb_S_codesOf_3 l d K r σ → K 3 σ) → (∀ σ, bb_S_codesOf_4 l d K r σ → K 4 σ) → (∀ σ, bb_S_codesOf_5 l d K r σ → K 5 σ) → (∀ σ, bb_S_codesOf_6 l d K r σ → K 6 σ) → (∀ σ, bb_S_codesOf_7 l d K r σ → K 7 σ) → (∀ σ, bb_S_codesOf_8 l d K r σ → K 8 σ) → (∀ σ, bb_S_codesOf_9 l d K r σ → K 9 σ) → (∀ σ, bb_S_codesOf_10 l d K r σ → K 10 σ) → (∀ σ, bb_S_codesOf_11 l d K r σ → K 11 σ) → K 0 ([some (.int x0), some (.int x1), some (.int x2), some (.int x3)], [], g)) : qs_S_codesOf l (d + 1) [.int x0, .int x1, .int x2, .int x3] g r := by
  refine Sem.of (by decide) (by simp) (by simp [Value.category]) ?_
  intro p e s m args below meth c D cA ad hc hr hlk
  have hR : d + 1 ≤ (zRm (d + 1)).frames ∧ 64 * d + 64 ≤ (zRm (d + 1)).locals ∧ 0 ≤ (zRm (d + 1)).cells ∧ 0 ≤ (zRm (d + 1)).slots := by simp only [zRm]; omega
  refine h (fun j => zG p l e (zRm (d + 1)) s m args below meth c 4 D cA ad zT s.heap 0 0 (MQ below (zQc r D ad cA zT) args s 0 0 (zA zT ad)) (([0, 60, 62, 64, 68, 83, 84, 85, 99, 104, 108, 113] : List Nat).getD j 0)) ?_ ?_ ?_ ?_ ?_ ?_ ?_ ?_ ?_ ?_ ?_ ?_
  · exact (sn_iload_n hc dd_S_codesOf_0 rfl (sn_tsw hc dd_S_codesOf_1 (by decide) (tgt := 113) (by decide) ⟨by decide, ⟨60, by decide, (fun _ h => h)⟩, ⟨by decide, ⟨62, by decide, (fun _ h => h)⟩, ⟨by decide, ⟨60, by decide, (fun _ h => h)⟩, ⟨by decide, ⟨68, by decide, (fun _ h => h)⟩, ⟨by decide, ⟨85, by decide, (fun _ h => h)⟩, ⟨by decide, ⟨99, by decide, (fun _ h => h)⟩, ⟨by decide, ⟨104, by decide, (fun _ h => h)⟩, ⟨by decide, ⟨113, by decide, (fun _ h => h)⟩, ⟨by decide, ⟨113, by decide, (fun _ h => h)⟩, ⟨by decide, ⟨108, by decide, (fun _ h => h)⟩, ⟨by decide, ⟨64, by decide, (fun _ h => h)⟩, trivial⟩⟩⟩⟩⟩⟩⟩⟩⟩⟩⟩ (fun _ h => h)))
  · exact (sn_iconst hc dd_S_codesOf_60 (by decide) (sn_retI hc hr hlk dd_S_codesOf_61))
  · exact (sn_iconst hc dd_S_codesOf_62 (by decide) (sn_retI hc hr hlk dd_S_codesOf_63))
  · exact (sn_iconst hc dd_S_codesOf_64 (by decide) (sn_iload_n hc dd_S_codesOf_65 rfl (sn_ishl hc dd_S_codesOf_66 (sn_retI hc hr hlk dd_S_codesOf_67))))
  · exact (sn_iload_n hc dd_S_codesOf_68 rfl (sn_iconst hc dd_S_codesOf_69 (by decide) (sn_iand hc dd_S_codesOf_70 (sn_if_eq hc dd_S_codesOf_71 (by decide) (fun _ h => h) (sn_iload_n hc dd_S_codesOf_74 rfl (sn_bipush hc dd_S_codesOf_75 (by decide) (sn_iand hc dd_S_codesOf_77 (sn_iload_n hc dd_S_codesOf_78 rfl (sn_ior hc dd_S_codesOf_79 (sn_goto hc dd_S_codesOf_80 (by decide) (fun _ h => h)))))))))))
  · exact (sn_iload_n hc dd_S_codesOf_83 rfl (fun _ h => h))
  · exact (sn_retI hc hr hlk dd_S_codesOf_84)
  · exact (sn_iload_n hc dd_S_codesOf_85 rfl (sn_iload_n hc dd_S_codesOf_86 rfl (sn_callS hc hR dd_S_codesOf_87 lk_S_75 st_X_reached cw_X_reached (sn_iand hc dd_S_codesOf_90 (sn_iload_n hc dd_S_codesOf_91 rfl (sn_iload_n hc dd_S_codesOf_92 rfl (sn_callS hc hR dd_S_codesOf_93 lk_S_75 st_X_reached cw_X_reached (sn_iand hc dd_S_codesOf_96 (sn_ior hc dd_S_codesOf_97 (sn_retI hc hr hlk dd_S_codesOf_98))))))))))
  · exact (sn_iload_n hc dd_S_codesOf_99 rfl (sn_bipush hc dd_S_codesOf_100 (by decide) (sn_iand hc dd_S_codesOf_102 (sn_retI hc hr hlk dd_S_codesOf_103))))
  · exact (sn_iload_n hc dd_S_codesOf_104 rfl (sn_iload_n hc dd_S_codesOf_105 rfl (sn_ior hc dd_S_codesOf_106 (sn_retI hc hr hlk dd_S_codesOf_107))))
  · exact (sn_iload_n hc dd_S_codesOf_108 rfl (sn_callS hc hR dd_S_codesOf_109 lk_S_78 st_X_outsideTrap cw_X_outsideTrap (sn_retI hc hr hlk dd_S_codesOf_112)))
  · exact (sn_iload_n hc dd_S_codesOf_113 rfl (sn_retI hc hr hlk dd_S_codesOf_114))
