/-! the reference's sense -/
theorem mval {P : yP} {g0 g : zM} {D : Nat × Nat → Prop} {k : Nat} {v : Int32} (hat : mAt P g0 D g) (hk : k < P.ns) (hv : v3 v (eEq P (0, k) (m1 g P) (m2 g P)) (eEq P (0, k) (m2 g P) (m1 g P))) :
    mAt P g0 (fun u => D u ∨ u = (0, k)) (zU (zU g 27 27 (if g 27 27 = 0 ∧ g 44 k = v then 0 else 1)) 44 k v) := by
  obtain ⟨hf, h3, hch, hor⟩ := hat
  obtain ⟨hv1, hv2, hv3⟩ := hv
  have e44 : zU (zU g 27 27 (if g 27 27 = 0 ∧ g 44 k = v then 0 else 1)) 44 k v 44 = upd (g 44) k v := by
    rw [zU_self, zU_ne _ 27 27 _ (x := 44) (by omega)]
  have e43 : zU (zU g 27 27 (if g 27 27 = 0 ∧ g 44 k = v then 0 else 1)) 44 k v 43 = g 43 := by
    rw [zU_ne _ 44 _ _ (x := 43) (by omega), zU_ne _ 27 27 _ (x := 43) (by omega)]
  have e27 : zU (zU g 27 27 (if g 27 27 = 0 ∧ g 44 k = v then 0 else 1)) 44 k v 27 27 = (if g 27 27 = 0 ∧ g 44 k = v then 0 else 1) := by
    rw [zU_ne _ 44 _ _ (x := 27) (by omega), zU_at]
  have e27' : ∀ j, j ≠ 27 → zU (zU g 27 27 (if g 27 27 = 0 ∧ g 44 k = v then 0 else 1)) 44 k v 27 j = g 27 j := by
    intro j hj
    rw [zU_ne _ 44 _ _ (x := 27) (by omega), zU_off _ 27 27 _ hj]
  have eo : ∀ x, x ≠ 27 → x ≠ 44 → zU (zU g 27 27 (if g 27 27 = 0 ∧ g 44 k = v then 0 else 1)) 44 k v x = g x := by
    intro x h1 h2
    rw [zU_ne _ 44 _ _ h2, zU_ne _ 27 27 _ h1]
  generalize zU (zU g 27 27 (if g 27 27 = 0 ∧ g 44 k = v then 0 else 1)) 44 k v = g' at *
  have w1 : ∀ u : Nat × Nat, m1 g' P u = if u = (0, k) then decide (v = 1) else m1 g P u := by
    rintro ⟨x, j⟩
    cases x with
    | succ c' => simp only [m1, e43]; simp
    | zero =>
      simp only [m1, e44, upd]
      by_cases e : j = k
      · subst e; simp [hk]
      · simp [e]
  have w2 : ∀ u : Nat × Nat, m2 g' P u = if u = (0, k) then !decide (v = 2) else m2 g P u := by
    rintro ⟨x, j⟩
    cases x with
    | succ c' => simp only [m2, e43]; simp
    | zero =>
      simp only [m2, e44, upd]
      by_cases e : j = k
      · subst e; simp [hk]
      · simp [e]
  have hu : yUpd (eEq P) (xm g P) (xm g' P) := by
    refine ⟨fun u => ?_, fun u => ?_⟩
    · show m1 g' P u = _ ∨ m1 g' P u = _
      rw [w1]
      by_cases e : u = (0, k)
      · rw [if_pos e, hv2, e]; exact Or.inr rfl
      · rw [if_neg e]; exact Or.inl rfl
    · show m2 g' P u = _ ∨ m2 g' P u = _
      rw [w2]
      by_cases e : u = (0, k)
      · rw [if_pos e, hv3, e]; exact Or.inr rfl
      · rw [if_neg e]; exact Or.inl rfl
  have hle := hu.le hch.1
  refine ⟨⟨fun x h1 h2 h4 h5 => by rw [eo x h1 h4]; exact hf.1 x h1 h2 h4 h5, fun j hj => by rw [e27' j hj]; exact hf.2 j hj⟩, ⟨fun c' hc' j hj => by rw [e43]; exact h3.1 c' hc' j hj, fun i hi => ?_⟩, hu.ch (eEq_mono P) hch, ?_⟩
  · rw [e44]
    simp only [upd]
    split
    · exact hv1
    · exact h3.2 i hi
  · by_cases hs : g 44 k = v
    · have eq44 : g' 44 = g 44 := by rw [e44]; funext y; simp only [upd]; split; (rename_i e; rw [e, hs]); rfl
      obtain ⟨mm1, mm2⟩ := m_congr (P := P) e43 eq44
      rcases hor with ⟨a, b, d, dd⟩ | ⟨a, b⟩
      · left
        refine ⟨by rw [e27, if_pos ⟨a, hs⟩], by rw [e43, b], by rw [eq44, d], fun u hu' => ?_⟩
        rcases hu' with h | rfl
        · exact dd u h
        · obtain ⟨n1, n2⟩ := m_congr (P := P) b d
          have s1 := w1 (0, k)
          have s2 := w2 (0, k)
          rw [if_pos rfl, mm1, n1, hv2, n1, n2] at s1
          rw [if_pos rfl, mm2, n2, hv3, n1, n2] at s2
          exact ⟨s1, s2⟩
      · right
        refine ⟨by rw [e27, if_neg (fun q => by rw [a] at q; exact absurd q.1 (by decide))], ?_⟩
        show yCnt (vsA P) (m1 g' P, m2 g' P) < _
        rw [mm1, mm2]; exact b
    · right
      refine ⟨by rw [e27, if_neg (fun q => hs q.2)], ?_⟩
      have hlt : yCnt (vsA P) (xm g' P) < yCnt (vsA P) (xm g P) := by
        refine yCnt_lt hle (vsA P) (0, k) (List.mem_append_right _ (List.mem_map.mpr ⟨k, List.mem_range.mpr hk, rfl⟩)) ?_
        show m1 g' P (0, k) ≠ m1 g P (0, k) ∨ m2 g' P (0, k) ≠ m2 g P (0, k)
        rw [w1, w2, if_pos rfl, if_pos rfl]
        have o1 : m1 g P (0, k) = decide (g 44 k = 1) := by simp [m1, hk]
        have o2 : m2 g P (0, k) = !decide (g 44 k = 2) := by simp [m2, hk]
        rw [o1, o2]
        rcases hv1 with rfl | rfl | rfl <;> rcases h3.2 k hk with e | e | e <;> rw [e] at hs ⊢ <;> first | exact absurd rfl hs | decide
      rcases hor with ⟨a, b, d, dd⟩ | ⟨a, b⟩
      · obtain ⟨n1, n2⟩ := m_congr (P := P) b d
        have : xm g P = xm g0 P := by unfold xm; rw [n1, n2]
        rw [this] at hlt; exact hlt
      · exact Nat.lt_trans hlt b
theorem and1 (x : Int32) : x &&& 1 = 0 ∨ x &&& 1 = 1 := by
  obtain ⟨j, hj, e⟩ := pk_andE x (m := 1) 1 (by decide)
  have : j = 0 ∨ j = 1 := by omega
  rcases this with rfl | rfl
  · left; exact e
  · right; exact e
/-- a store in the scratch row changes nothing that counts -/
theorem mAt.em {P : yP} {g0 g : zM} {D : Nat × Nat → Prop} (h : mAt P g0 D g) (i : Nat) (v : Int32) : mAt P g0 D (zU g 45 i v) := by
  obtain ⟨hf, h3, hch, hor⟩ := h
  have e := fun x (hx : x ≠ 45) => zU_ne g 45 i v (x := x) hx
  obtain ⟨mm1, mm2⟩ := m_congr (P := P) (e 43 (by omega)) (e 44 (by omega))
  have ex : xm (zU g 45 i v) P = xm g P := by unfold xm; rw [mm1, mm2]
  refine ⟨⟨fun k h1 h2 h3 h4 => by rw [e k h4]; exact hf.1 k h1 h2 h3 h4, fun j hj => by rw [e 27 (by omega)]; exact hf.2 j hj⟩, ⟨fun c hc j hj => by rw [e 43 (by omega)]; exact h3.1 c hc j hj, fun i hi => by rw [e 44 (by omega)]; exact h3.2 i hi⟩, by rw [ex]; exact hch, ?_⟩
  rw [ex, e 27 (by omega), e 43 (by omega), e 44 (by omega)]
  exact hor
set_option maxHeartbeats 8000000 in
set_option maxRecDepth 20000 in
theorem sp_M_sense {l : Launch} {d : Nat} {g g0 : zM} {r : Option Value → zM → Prop} {P : yP} {sn : Nat → Nat} {D : Nat × Nat → Prop} {x : Int32} (hM : zMr g0 P sn) (hE : ∀ c, c < P.n → P.kd c = 2 → 3 ≤ P.nm c) (hip : ∀ i, i < 3 → P.ip i = !decide (jIn x i = 0)) (hat : mAt P g0 D g)
    (h : ∀ g1, mAt P g0 (fun u => D u ∨ (u.1 = 0 ∧ u.2 < P.ns)) g1 → r none g1) : qs_M_sense l (d + 2) [.ref 27, .int x] g r := by
  have p3 := hM.2.2.1
  have p6 := hM.2.2.2.2.2.1
  refine ss_M_sense fun K b0 b1 b2 b3 b4 b5 b6 b7 b8 b9 b10 b11 b12 b13 b14 b15 b16 => ?_
  -- the third loop
  have loop3 : ∀ n i g1 y, i + n = P.ns → mAt P g0 (fun u => D u ∨ (u.1 = 0 ∧ u.2 < i)) g1 → (∀ j, j < P.ns → v3 (g1 45 j) (eSig P (m1 g1 P) j) (eSig P (m2 g1 P) j)) → K 12 ([some (.ref 27), some (.int x), some (.int (nI i)), y], [], g1) := by
    intro n
    induction n with
    | zero =>
      intro i g1 y hi h1 he
      have hM1 := h1.1.mr hM
      refine b12 _ ?_
      simp only [bb_M_sense_12, oIload, oAload, oIstore, oInc, oConst, o2, oDup, oPop, oDupX1, oDupX2, oDup2, oIf, oIfN, oCmp, oCmpN, oSwitch, oGetR, oGetI, oPutI, oPutZ, oIald, oZald, oIast, oZast, oRetI, oRetZ, oRetV, oCall, oRecv, oMax, List.map_cons, List.map_nil, List.getElem?_cons_zero, List.getElem?_cons_succ, List.set_cons_zero, List.set_cons_succ, List.length_cons, List.length_nil, List.cons_append, List.nil_append, List.append_nil, List.take_succ_cons, List.take_zero, List.drop_succ_cons, List.drop_zero, List.reverse_cons, List.reverse_nil, Option.toList, Value.category, List.sum_cons, List.sum_nil, zk_0, zk_1, zk_12, zk_20, zk_23, zk_27, zn_2, zn_3, zn_4, zn_5, zn_6, zn_7, zn_8, zn_9, zn_10, zn_11, zn_13, zn_14, zn_15, zn_16, zn_17, zn_18, zn_19, zn_21, zn_22, zn_24, zn_25, zn_26, zn_28, zn_29, zn_30, zn_31, zn_32, zn_33, zn_34, zn_35, zn_36, zn_37, zn_38, zn_39, zn_40, zn_41, zn_42, zn_43, zn_44, zn_45, zn_46, Nat.reduceAdd, Nat.reduceSub, Nat.reduceLeDiff, true_and, and_true]
      rw [hM1.2.2.2.1]
      refine ⟨fun _ => b16 _ ?_, fun e => absurd (nI_le (by omega) (by omega)) e⟩
      simp only [bb_M_sense_16, oIload, oAload, oIstore, oInc, oConst, o2, oDup, oPop, oDupX1, oDupX2, oDup2, oIf, oIfN, oCmp, oCmpN, oSwitch, oGetR, oGetI, oPutI, oPutZ, oIald, oZald, oIast, oZast, oRetI, oRetZ, oRetV, oCall, oRecv, oMax, List.map_cons, List.map_nil, List.getElem?_cons_zero, List.getElem?_cons_succ, List.set_cons_zero, List.set_cons_succ, List.length_cons, List.length_nil, List.cons_append, List.nil_append, List.append_nil, List.take_succ_cons, List.take_zero, List.drop_succ_cons, List.drop_zero, List.reverse_cons, List.reverse_nil, Option.toList, Value.category, List.sum_cons, List.sum_nil, zk_0, zk_1, zk_12, zk_20, zk_23, zk_27, zn_2, zn_3, zn_4, zn_5, zn_6, zn_7, zn_8, zn_9, zn_10, zn_11, zn_13, zn_14, zn_15, zn_16, zn_17, zn_18, zn_19, zn_21, zn_22, zn_24, zn_25, zn_26, zn_28, zn_29, zn_30, zn_31, zn_32, zn_33, zn_34, zn_35, zn_36, zn_37, zn_38, zn_39, zn_40, zn_41, zn_42, zn_43, zn_44, zn_45, zn_46, Nat.reduceAdd, Nat.reduceSub, Nat.reduceLeDiff, true_and, and_true]
      refine h _ ?_
      rw [show P.ns = i by omega]; exact h1
    | succ n ih =>
      intro i g1 y hi h1 he
      have hM1 := h1.1.mr hM
      have hin : i < P.ns := by omega
      have hv := he i hin
      have hv' : v3 (g1 45 i) (eEq P (0, i) (m1 g1 P) (m2 g1 P)) (eEq P (0, i) (m2 g1 P) (m1 g1 P)) := by
        refine v3_eq hv ?_ ?_ <;> simp [eEq, hin]
      have k15 : ∀ b : Int32, b = (if g1 27 27 = 0 ∧ g1 44 i = g1 45 i then 0 else 1) → K 15 ([some (.ref 27), some (.int x), some (.int (nI i)), y], [.int b, .ref 27], g1) := by
        intro b hb
        refine b15 _ ?_
        simp only [bb_M_sense_15, oIload, oAload, oIstore, oInc, oConst, o2, oDup, oPop, oDupX1, oDupX2, oDup2, oIf, oIfN, oCmp, oCmpN, oSwitch, oGetR, oGetI, oPutI, oPutZ, oIald, oZald, oIast, oZast, oRetI, oRetZ, oRetV, oCall, oRecv, oMax, List.map_cons, List.map_nil, List.getElem?_cons_zero, List.getElem?_cons_succ, List.set_cons_zero, List.set_cons_succ, List.length_cons, List.length_nil, List.cons_append, List.nil_append, List.append_nil, List.take_succ_cons, List.take_zero, List.drop_succ_cons, List.drop_zero, List.reverse_cons, List.reverse_nil, Option.toList, Value.category, List.sum_cons, List.sum_nil, zk_0, zk_1, zk_12, zk_20, zk_23, zk_27, zn_2, zn_3, zn_4, zn_5, zn_6, zn_7, zn_8, zn_9, zn_10, zn_11, zn_13, zn_14, zn_15, zn_16, zn_17, zn_18, zn_19, zn_21, zn_22, zn_24, zn_25, zn_26, zn_28, zn_29, zn_30, zn_31, zn_32, zn_33, zn_34, zn_35, zn_36, zn_37, zn_38, zn_39, zn_40, zn_41, zn_42, zn_43, zn_44, zn_45, zn_46, Nat.reduceAdd, Nat.reduceSub, Nat.reduceLeDiff, true_and, and_true]
        refine ⟨by rw [hb]; split <;> simp, i, rfl, by omega, i, rfl, by omega, ?_⟩
        rw [nI_1, zU_ne g1 27 27 b (x := 45) (by omega), hb]
        have h2 := mval h1 hin hv'
        have w : ∀ c, m1 (zU (zU g1 27 27 (if g1 27 27 = 0 ∧ g1 44 i = g1 45 i then 0 else 1)) 44 i (g1 45 i)) P (c + 1, 0) = m1 g1 P (c + 1, 0) ∧ m2 (zU (zU g1 27 27 (if g1 27 27 = 0 ∧ g1 44 i = g1 45 i then 0 else 1)) 44 i (g1 45 i)) P (c + 1, 0) = m2 g1 P (c + 1, 0) := by
          intro c
          simp only [m1, m2]
          rw [zU_ne _ 44 _ _ (x := 43) (by omega), zU_ne _ 27 27 _ (x := 43) (by omega)]
          exact ⟨rfl, rfl⟩
        refine ih (i + 1) _ _ (by omega) (h2.weak ?_) fun j hj => ?_
        · rintro ⟨u1, u2⟩ (hu | ⟨hu1, hu2⟩)
          · exact Or.inl (Or.inl hu)
          · dsimp only at hu1 hu2
            by_cases e : u2 = i
            · exact Or.inr (by rw [hu1, e])
            · exact Or.inl (Or.inr ⟨hu1, by show u2 < i; omega⟩)
        · rw [zU_ne _ 44 _ _ (x := 45) (by omega), zU_ne _ 27 27 _ (x := 45) (by omega)]
          refine v3_eq (he j hj) (eSig_congr (fun c hc => ?_) j) (eSig_congr (fun c hc => ?_) j)
          · exact (w c).1
          · exact (w c).2
      have k13 : ¬ (g1 27 27 = 0 ∧ g1 44 i = g1 45 i) → K 13 ([some (.ref 27), some (.int x), some (.int (nI i)), y], [.ref 27], g1) := by
        intro e
        refine b13 _ ?_
        simp only [bb_M_sense_13, oIload, oAload, oIstore, oInc, oConst, o2, oDup, oPop, oDupX1, oDupX2, oDup2, oIf, oIfN, oCmp, oCmpN, oSwitch, oGetR, oGetI, oPutI, oPutZ, oIald, oZald, oIast, oZast, oRetI, oRetZ, oRetV, oCall, oRecv, oMax, List.map_cons, List.map_nil, List.getElem?_cons_zero, List.getElem?_cons_succ, List.set_cons_zero, List.set_cons_succ, List.length_cons, List.length_nil, List.cons_append, List.nil_append, List.append_nil, List.take_succ_cons, List.take_zero, List.drop_succ_cons, List.drop_zero, List.reverse_cons, List.reverse_nil, Option.toList, Value.category, List.sum_cons, List.sum_nil, zk_0, zk_1, zk_12, zk_20, zk_23, zk_27, zn_2, zn_3, zn_4, zn_5, zn_6, zn_7, zn_8, zn_9, zn_10, zn_11, zn_13, zn_14, zn_15, zn_16, zn_17, zn_18, zn_19, zn_21, zn_22, zn_24, zn_25, zn_26, zn_28, zn_29, zn_30, zn_31, zn_32, zn_33, zn_34, zn_35, zn_36, zn_37, zn_38, zn_39, zn_40, zn_41, zn_42, zn_43, zn_44, zn_45, zn_46, Nat.reduceAdd, Nat.reduceSub, Nat.reduceLeDiff, true_and, and_true]
        exact k15 _ (by rw [if_neg e])
      refine b12 _ ?_
      simp only [bb_M_sense_12, oIload, oAload, oIstore, oInc, oConst, o2, oDup, oPop, oDupX1, oDupX2, oDup2, oIf, oIfN, oCmp, oCmpN, oSwitch, oGetR, oGetI, oPutI, oPutZ, oIald, oZald, oIast, oZast, oRetI, oRetZ, oRetV, oCall, oRecv, oMax, List.map_cons, List.map_nil, List.getElem?_cons_zero, List.getElem?_cons_succ, List.set_cons_zero, List.set_cons_succ, List.length_cons, List.length_nil, List.cons_append, List.nil_append, List.append_nil, List.take_succ_cons, List.take_zero, List.drop_succ_cons, List.drop_zero, List.reverse_cons, List.reverse_nil, Option.toList, Value.category, List.sum_cons, List.sum_nil, zk_0, zk_1, zk_12, zk_20, zk_23, zk_27, zn_2, zn_3, zn_4, zn_5, zn_6, zn_7, zn_8, zn_9, zn_10, zn_11, zn_13, zn_14, zn_15, zn_16, zn_17, zn_18, zn_19, zn_21, zn_22, zn_24, zn_25, zn_26, zn_28, zn_29, zn_30, zn_31, zn_32, zn_33, zn_34, zn_35, zn_36, zn_37, zn_38, zn_39, zn_40, zn_41, zn_42, zn_43, zn_44, zn_45, zn_46, Nat.reduceAdd, Nat.reduceSub, Nat.reduceLeDiff, true_and, and_true]
      rw [hM1.2.2.2.1]
      refine ⟨fun e => absurd e (nI_ge (by omega) (by omega)), fun _ => ⟨fun e => k13 (fun q => e q.1), fun e => ⟨i, rfl, by omega, i, rfl, by omega, fun e2 => b14 _ ?_, fun e2 => k13 (fun q => e2 q.2)⟩⟩⟩
      simp only [bb_M_sense_14, oIload, oAload, oIstore, oInc, oConst, o2, oDup, oPop, oDupX1, oDupX2, oDup2, oIf, oIfN, oCmp, oCmpN, oSwitch, oGetR, oGetI, oPutI, oPutZ, oIald, oZald, oIast, oZast, oRetI, oRetZ, oRetV, oCall, oRecv, oMax, List.map_cons, List.map_nil, List.getElem?_cons_zero, List.getElem?_cons_succ, List.set_cons_zero, List.set_cons_succ, List.length_cons, List.length_nil, List.cons_append, List.nil_append, List.append_nil, List.take_succ_cons, List.take_zero, List.drop_succ_cons, List.drop_zero, List.reverse_cons, List.reverse_nil, Option.toList, Value.category, List.sum_cons, List.sum_nil, zk_0, zk_1, zk_12, zk_20, zk_23, zk_27, zn_2, zn_3, zn_4, zn_5, zn_6, zn_7, zn_8, zn_9, zn_10, zn_11, zn_13, zn_14, zn_15, zn_16, zn_17, zn_18, zn_19, zn_21, zn_22, zn_24, zn_25, zn_26, zn_28, zn_29, zn_30, zn_31, zn_32, zn_33, zn_34, zn_35, zn_36, zn_37, zn_38, zn_39, zn_40, zn_41, zn_42, zn_43, zn_44, zn_45, zn_46, Nat.reduceAdd, Nat.reduceSub, Nat.reduceLeDiff, true_and, and_true]
      exact k15 _ (by rw [if_pos ⟨e, e2⟩])
  -- the second loop
  have loop2 : ∀ n c g1 y, c + n = P.n → mAt P g0 D g1 → (∀ j, j < P.ns → v3 (g1 45 j) (if j < 3 then P.ip j else eEm P (m1 g1 P) j c) (if j < 3 then P.ip j else eEm P (m2 g1 P) j c)) → K 7 ([some (.ref 27), some (.int x), some (.int (nI c)), y], [], g1) := by
    intro n
    induction n with
    | zero =>
      intro c g1 y hcn h1 he
      have hM1 := h1.1.mr hM
      refine b7 _ ?_
      simp only [bb_M_sense_7, oIload, oAload, oIstore, oInc, oConst, o2, oDup, oPop, oDupX1, oDupX2, oDup2, oIf, oIfN, oCmp, oCmpN, oSwitch, oGetR, oGetI, oPutI, oPutZ, oIald, oZald, oIast, oZast, oRetI, oRetZ, oRetV, oCall, oRecv, oMax, List.map_cons, List.map_nil, List.getElem?_cons_zero, List.getElem?_cons_succ, List.set_cons_zero, List.set_cons_succ, List.length_cons, List.length_nil, List.cons_append, List.nil_append, List.append_nil, List.take_succ_cons, List.take_zero, List.drop_succ_cons, List.drop_zero, List.reverse_cons, List.reverse_nil, Option.toList, Value.category, List.sum_cons, List.sum_nil, zk_0, zk_1, zk_12, zk_20, zk_23, zk_27, zn_2, zn_3, zn_4, zn_5, zn_6, zn_7, zn_8, zn_9, zn_10, zn_11, zn_13, zn_14, zn_15, zn_16, zn_17, zn_18, zn_19, zn_21, zn_22, zn_24, zn_25, zn_26, zn_28, zn_29, zn_30, zn_31, zn_32, zn_33, zn_34, zn_35, zn_36, zn_37, zn_38, zn_39, zn_40, zn_41, zn_42, zn_43, zn_44, zn_45, zn_46, Nat.reduceAdd, Nat.reduceSub, Nat.reduceLeDiff, true_and, and_true]
      rw [hM1.1]
      refine ⟨fun _ => b11 _ ?_, fun e => absurd (nI_le (by omega) (by omega)) e⟩
      simp only [bb_M_sense_11, oIload, oAload, oIstore, oInc, oConst, o2, oDup, oPop, oDupX1, oDupX2, oDup2, oIf, oIfN, oCmp, oCmpN, oSwitch, oGetR, oGetI, oPutI, oPutZ, oIald, oZald, oIast, oZast, oRetI, oRetZ, oRetV, oCall, oRecv, oMax, List.map_cons, List.map_nil, List.getElem?_cons_zero, List.getElem?_cons_succ, List.set_cons_zero, List.set_cons_succ, List.length_cons, List.length_nil, List.cons_append, List.nil_append, List.append_nil, List.take_succ_cons, List.take_zero, List.drop_succ_cons, List.drop_zero, List.reverse_cons, List.reverse_nil, Option.toList, Value.category, List.sum_cons, List.sum_nil, zk_0, zk_1, zk_12, zk_20, zk_23, zk_27, zn_2, zn_3, zn_4, zn_5, zn_6, zn_7, zn_8, zn_9, zn_10, zn_11, zn_13, zn_14, zn_15, zn_16, zn_17, zn_18, zn_19, zn_21, zn_22, zn_24, zn_25, zn_26, zn_28, zn_29, zn_30, zn_31, zn_32, zn_33, zn_34, zn_35, zn_36, zn_37, zn_38, zn_39, zn_40, zn_41, zn_42, zn_43, zn_44, zn_45, zn_46, Nat.reduceAdd, Nat.reduceSub, Nat.reduceLeDiff, true_and, and_true]
      refine loop3 P.ns 0 g1 _ (by omega) (h1.weak ?_) fun j hj => ?_
      · rintro ⟨u1, u2⟩ (hu | ⟨hu1, hu2⟩)
        · exact hu
        · dsimp only at hu2; omega
      · have := he j hj
        rw [show c = P.n by omega] at this
        exact this
    | succ n ih =>
      intro c g1 y hcn h1 he
      have hM1 := h1.1.mr hM
      have hc : c < P.n := by omega
      obtain ⟨q1, q2, q3, q4, -, -, q7, -⟩ := hM1.2.2.2.2.2.2.1 c hc
      have x2 : nI (P.kd c) = 2 ↔ P.kd c = 2 := nI_is 2 rfl (by omega) (by omega)
      have k10 : ∀ g2 y, mAt P g0 D g2 → (∀ j, j < P.ns → v3 (g2 45 j) (if j < 3 then P.ip j else eEm P (m1 g2 P) j (c + 1)) (if j < 3 then P.ip j else eEm P (m2 g2 P) j (c + 1))) → K 10 ([some (.ref 27), some (.int x), some (.int (nI c)), y], [], g2) := by
        intro g2 y h2 he2
        refine b10 _ ?_
        simp only [bb_M_sense_10, oIload, oAload, oIstore, oInc, oConst, o2, oDup, oPop, oDupX1, oDupX2, oDup2, oIf, oIfN, oCmp, oCmpN, oSwitch, oGetR, oGetI, oPutI, oPutZ, oIald, oZald, oIast, oZast, oRetI, oRetZ, oRetV, oCall, oRecv, oMax, List.map_cons, List.map_nil, List.getElem?_cons_zero, List.getElem?_cons_succ, List.set_cons_zero, List.set_cons_succ, List.length_cons, List.length_nil, List.cons_append, List.nil_append, List.append_nil, List.take_succ_cons, List.take_zero, List.drop_succ_cons, List.drop_zero, List.reverse_cons, List.reverse_nil, Option.toList, Value.category, List.sum_cons, List.sum_nil, zk_0, zk_1, zk_12, zk_20, zk_23, zk_27, zn_2, zn_3, zn_4, zn_5, zn_6, zn_7, zn_8, zn_9, zn_10, zn_11, zn_13, zn_14, zn_15, zn_16, zn_17, zn_18, zn_19, zn_21, zn_22, zn_24, zn_25, zn_26, zn_28, zn_29, zn_30, zn_31, zn_32, zn_33, zn_34, zn_35, zn_36, zn_37, zn_38, zn_39, zn_40, zn_41, zn_42, zn_43, zn_44, zn_45, zn_46, Nat.reduceAdd, Nat.reduceSub, Nat.reduceLeDiff, true_and, and_true]
        rw [nI_1]
        exact ih (c + 1) g2 _ (by omega) h2 he2
      refine b7 _ ?_
      simp only [bb_M_sense_7, oIload, oAload, oIstore, oInc, oConst, o2, oDup, oPop, oDupX1, oDupX2, oDup2, oIf, oIfN, oCmp, oCmpN, oSwitch, oGetR, oGetI, oPutI, oPutZ, oIald, oZald, oIast, oZast, oRetI, oRetZ, oRetV, oCall, oRecv, oMax, List.map_cons, List.map_nil, List.getElem?_cons_zero, List.getElem?_cons_succ, List.set_cons_zero, List.set_cons_succ, List.length_cons, List.length_nil, List.cons_append, List.nil_append, List.append_nil, List.take_succ_cons, List.take_zero, List.drop_succ_cons, List.drop_zero, List.reverse_cons, List.reverse_nil, Option.toList, Value.category, List.sum_cons, List.sum_nil, zk_0, zk_1, zk_12, zk_20, zk_23, zk_27, zn_2, zn_3, zn_4, zn_5, zn_6, zn_7, zn_8, zn_9, zn_10, zn_11, zn_13, zn_14, zn_15, zn_16, zn_17, zn_18, zn_19, zn_21, zn_22, zn_24, zn_25, zn_26, zn_28, zn_29, zn_30, zn_31, zn_32, zn_33, zn_34, zn_35, zn_36, zn_37, zn_38, zn_39, zn_40, zn_41, zn_42, zn_43, zn_44, zn_45, zn_46, Nat.reduceAdd, Nat.reduceSub, Nat.reduceLeDiff, true_and, and_true]
      rw [hM1.1]
      refine ⟨fun e => absurd e (nI_ge (by omega) (by omega)), fun _ => ?_⟩
      refine sp_M_kindOf (by omega) q2 q1 ?_
      rw [q3]
      simp only [oIload, oAload, oIstore, oInc, oConst, o2, oDup, oPop, oDupX1, oDupX2, oDup2, oIf, oIfN, oCmp, oCmpN, oSwitch, oGetR, oGetI, oPutI, oPutZ, oIald, oZald, oIast, oZast, oRetI, oRetZ, oRetV, oCall, oRecv, oMax, List.map_cons, List.map_nil, List.getElem?_cons_zero, List.getElem?_cons_succ, List.set_cons_zero, List.set_cons_succ, List.length_cons, List.length_nil, List.cons_append, List.nil_append, List.append_nil, List.take_succ_cons, List.take_zero, List.drop_succ_cons, List.drop_zero, List.reverse_cons, List.reverse_nil, Option.toList, Value.category, List.sum_cons, List.sum_nil, zk_0, zk_1, zk_12, zk_20, zk_23, zk_27, zn_2, zn_3, zn_4, zn_5, zn_6, zn_7, zn_8, zn_9, zn_10, zn_11, zn_13, zn_14, zn_15, zn_16, zn_17, zn_18, zn_19, zn_21, zn_22, zn_24, zn_25, zn_26, zn_28, zn_29, zn_30, zn_31, zn_32, zn_33, zn_34, zn_35, zn_36, zn_37, zn_38, zn_39, zn_40, zn_41, zn_42, zn_43, zn_44, zn_45, zn_46, Nat.reduceAdd, Nat.reduceSub, Nat.reduceLeDiff, true_and, and_true]
      rw [x2]
      refine ⟨fun e => b8 _ ?_, fun e => ?_⟩
      · simp only [bb_M_sense_8, oIload, oAload, oIstore, oInc, oConst, o2, oDup, oPop, oDupX1, oDupX2, oDup2, oIf, oIfN, oCmp, oCmpN, oSwitch, oGetR, oGetI, oPutI, oPutZ, oIald, oZald, oIast, oZast, oRetI, oRetZ, oRetV, oCall, oRecv, oMax, List.map_cons, List.map_nil, List.getElem?_cons_zero, List.getElem?_cons_succ, List.set_cons_zero, List.set_cons_succ, List.length_cons, List.length_nil, List.cons_append, List.nil_append, List.append_nil, List.take_succ_cons, List.take_zero, List.drop_succ_cons, List.drop_zero, List.reverse_cons, List.reverse_nil, Option.toList, Value.category, List.sum_cons, List.sum_nil, zk_0, zk_1, zk_12, zk_20, zk_23, zk_27, zn_2, zn_3, zn_4, zn_5, zn_6, zn_7, zn_8, zn_9, zn_10, zn_11, zn_13, zn_14, zn_15, zn_16, zn_17, zn_18, zn_19, zn_21, zn_22, zn_24, zn_25, zn_26, zn_28, zn_29, zn_30, zn_31, zn_32, zn_33, zn_34, zn_35, zn_36, zn_37, zn_38, zn_39, zn_40, zn_41, zn_42, zn_43, zn_44, zn_45, zn_46, Nat.reduceAdd, Nat.reduceSub, Nat.reduceLeDiff, true_and, and_true]
        refine b9 _ ?_
        simp only [bb_M_sense_9, oIload, oAload, oIstore, oInc, oConst, o2, oDup, oPop, oDupX1, oDupX2, oDup2, oIf, oIfN, oCmp, oCmpN, oSwitch, oGetR, oGetI, oPutI, oPutZ, oIald, oZald, oIast, oZast, oRetI, oRetZ, oRetV, oCall, oRecv, oMax, List.map_cons, List.map_nil, List.getElem?_cons_zero, List.getElem?_cons_succ, List.set_cons_zero, List.set_cons_succ, List.length_cons, List.length_nil, List.cons_append, List.nil_append, List.append_nil, List.take_succ_cons, List.take_zero, List.drop_succ_cons, List.drop_zero, List.reverse_cons, List.reverse_nil, Option.toList, Value.category, List.sum_cons, List.sum_nil, zk_0, zk_1, zk_12, zk_20, zk_23, zk_27, zn_2, zn_3, zn_4, zn_5, zn_6, zn_7, zn_8, zn_9, zn_10, zn_11, zn_13, zn_14, zn_15, zn_16, zn_17, zn_18, zn_19, zn_21, zn_22, zn_24, zn_25, zn_26, zn_28, zn_29, zn_30, zn_31, zn_32, zn_33, zn_34, zn_35, zn_36, zn_37, zn_38, zn_39, zn_40, zn_41, zn_42, zn_43, zn_44, zn_45, zn_46, Nat.reduceAdd, Nat.reduceSub, Nat.reduceLeDiff, true_and, and_true]
        refine ⟨fun _ => k10 _ _ h1 fun j hj => ?_, fun e2 => absurd (by decide) e2⟩
        have := he j hj
        have e' : (P.kd c == 2) = false := by simpa using e
        refine v3_eq this ?_ ?_ <;> (rw [eEm_succ, e', Bool.false_and, Bool.false_and, Bool.or_false])
      · obtain ⟨t1, qq, t2, t3, t4⟩ := q7 (by omega)
        have n3 := hE c hc e
        refine ⟨c, rfl, by omega, sn c, q2, by omega, 8 * c + qq, by rw [t3]; exact ix_8 c qq, by omega, ?_⟩
        rw [t4]
        refine b9 _ ?_
        simp only [bb_M_sense_9, oIload, oAload, oIstore, oInc, oConst, o2, oDup, oPop, oDupX1, oDupX2, oDup2, oIf, oIfN, oCmp, oCmpN, oSwitch, oGetR, oGetI, oPutI, oPutZ, oIald, oZald, oIast, oZast, oRetI, oRetZ, oRetV, oCall, oRecv, oMax, List.map_cons, List.map_nil, List.getElem?_cons_zero, List.getElem?_cons_succ, List.set_cons_zero, List.set_cons_succ, List.length_cons, List.length_nil, List.cons_append, List.nil_append, List.append_nil, List.take_succ_cons, List.take_zero, List.drop_succ_cons, List.drop_zero, List.reverse_cons, List.reverse_nil, Option.toList, Value.category, List.sum_cons, List.sum_nil, zk_0, zk_1, zk_12, zk_20, zk_23, zk_27, zn_2, zn_3, zn_4, zn_5, zn_6, zn_7, zn_8, zn_9, zn_10, zn_11, zn_13, zn_14, zn_15, zn_16, zn_17, zn_18, zn_19, zn_21, zn_22, zn_24, zn_25, zn_26, zn_28, zn_29, zn_30, zn_31, zn_32, zn_33, zn_34, zn_35, zn_36, zn_37, zn_38, zn_39, zn_40, zn_41, zn_42, zn_43, zn_44, zn_45, zn_46, Nat.reduceAdd, Nat.reduceSub, Nat.reduceLeDiff, true_and, and_true]
        refine ⟨fun e2 => absurd e2 (nI_pos (by omega)), fun _ => ⟨P.nm c, rfl, by omega, ?_⟩⟩
        refine sp_M_get (k := 0) rfl (by omega) (by omega) ?_
        simp only [oIload, oAload, oIstore, oInc, oConst, o2, oDup, oPop, oDupX1, oDupX2, oDup2, oIf, oIfN, oCmp, oCmpN, oSwitch, oGetR, oGetI, oPutI, oPutZ, oIald, oZald, oIast, oZast, oRetI, oRetZ, oRetV, oCall, oRecv, oMax, List.map_cons, List.map_nil, List.getElem?_cons_zero, List.getElem?_cons_succ, List.set_cons_zero, List.set_cons_succ, List.length_cons, List.length_nil, List.cons_append, List.nil_append, List.append_nil, List.take_succ_cons, List.take_zero, List.drop_succ_cons, List.drop_zero, List.reverse_cons, List.reverse_nil, Option.toList, Value.category, List.sum_cons, List.sum_nil, zk_0, zk_1, zk_12, zk_20, zk_23, zk_27, zn_2, zn_3, zn_4, zn_5, zn_6, zn_7, zn_8, zn_9, zn_10, zn_11, zn_13, zn_14, zn_15, zn_16, zn_17, zn_18, zn_19, zn_21, zn_22, zn_24, zn_25, zn_26, zn_28, zn_29, zn_30, zn_31, zn_32, zn_33, zn_34, zn_35, zn_36, zn_37, zn_38, zn_39, zn_40, zn_41, zn_42, zn_43, zn_44, zn_45, zn_46, Nat.reduceAdd, Nat.reduceSub, Nat.reduceLeDiff, true_and, and_true]
        refine sp_M_or ?_
        simp only [oIload, oAload, oIstore, oInc, oConst, o2, oDup, oPop, oDupX1, oDupX2, oDup2, oIf, oIfN, oCmp, oCmpN, oSwitch, oGetR, oGetI, oPutI, oPutZ, oIald, oZald, oIast, oZast, oRetI, oRetZ, oRetV, oCall, oRecv, oMax, List.map_cons, List.map_nil, List.getElem?_cons_zero, List.getElem?_cons_succ, List.set_cons_zero, List.set_cons_succ, List.length_cons, List.length_nil, List.cons_append, List.nil_append, List.append_nil, List.take_succ_cons, List.take_zero, List.drop_succ_cons, List.drop_zero, List.reverse_cons, List.reverse_nil, Option.toList, Value.category, List.sum_cons, List.sum_nil, zk_0, zk_1, zk_12, zk_20, zk_23, zk_27, zn_2, zn_3, zn_4, zn_5, zn_6, zn_7, zn_8, zn_9, zn_10, zn_11, zn_13, zn_14, zn_15, zn_16, zn_17, zn_18, zn_19, zn_21, zn_22, zn_24, zn_25, zn_26, zn_28, zn_29, zn_30, zn_31, zn_32, zn_33, zn_34, zn_35, zn_36, zn_37, zn_38, zn_39, zn_40, zn_41, zn_42, zn_43, zn_44, zn_45, zn_46, Nat.reduceAdd, Nat.reduceSub, Nat.reduceLeDiff, true_and, and_true]
        refine ⟨P.nm c, rfl, by omega, k10 _ _ (h1.em _ _) fun j hj => ?_⟩
        have ew : ∀ a, m1 (zU g1 45 (P.nm c) a) P = m1 g1 P ∧ m2 (zU g1 45 (P.nm c) a) P = m2 g1 P := fun a => m_congr (zU_ne g1 45 _ _ (x := 43) (by omega)) (zU_ne g1 45 _ _ (x := 44) (by omega))
        rw [(ew _).1, (ew _).2]
        by_cases ej : j = P.nm c
        · subst ej
          rw [zU_at]
          refine v3_eq (v3_or (he _ hj) (v3_w h1.2.1 hc (show 0 < 11 by omega))) ?_ ?_ <;> rw [if_neg (by omega), if_neg (by omega), eEm_succ] <;> simp [e]
        · rw [zU_off g1 45 (P.nm c) _ ej]
          refine v3_eq (he j hj) ?_ ?_
          · by_cases h3 : j < 3
            · simp [h3]
            · rw [if_neg h3, if_neg h3, eEm_succ]; simp [Ne.symm ej]
          · by_cases h3 : j < 3
            · simp [h3]
            · rw [if_neg h3, if_neg h3, eEm_succ]; simp [Ne.symm ej]
  -- the first loop
  have loop1 : ∀ n i g1 y, i + n = P.ns → mAt P g0 D g1 → (∀ j, j < i → v3 (g1 45 j) (if j < 3 then P.ip j else false) (if j < 3 then P.ip j else false)) → K 1 ([some (.ref 27), some (.int x), some (.int (nI i)), y], [], g1) := by
    intro n
    induction n with
    | zero =>
      intro i g1 y hi h1 he
      have hM1 := h1.1.mr hM
      refine b1 _ ?_
      simp only [bb_M_sense_1, oIload, oAload, oIstore, oInc, oConst, o2, oDup, oPop, oDupX1, oDupX2, oDup2, oIf, oIfN, oCmp, oCmpN, oSwitch, oGetR, oGetI, oPutI, oPutZ, oIald, oZald, oIast, oZast, oRetI, oRetZ, oRetV, oCall, oRecv, oMax, List.map_cons, List.map_nil, List.getElem?_cons_zero, List.getElem?_cons_succ, List.set_cons_zero, List.set_cons_succ, List.length_cons, List.length_nil, List.cons_append, List.nil_append, List.append_nil, List.take_succ_cons, List.take_zero, List.drop_succ_cons, List.drop_zero, List.reverse_cons, List.reverse_nil, Option.toList, Value.category, List.sum_cons, List.sum_nil, zk_0, zk_1, zk_12, zk_20, zk_23, zk_27, zn_2, zn_3, zn_4, zn_5, zn_6, zn_7, zn_8, zn_9, zn_10, zn_11, zn_13, zn_14, zn_15, zn_16, zn_17, zn_18, zn_19, zn_21, zn_22, zn_24, zn_25, zn_26, zn_28, zn_29, zn_30, zn_31, zn_32, zn_33, zn_34, zn_35, zn_36, zn_37, zn_38, zn_39, zn_40, zn_41, zn_42, zn_43, zn_44, zn_45, zn_46, Nat.reduceAdd, Nat.reduceSub, Nat.reduceLeDiff, true_and, and_true]
      rw [hM1.2.2.2.1]
      refine ⟨fun _ => b6 _ ?_, fun e => absurd (nI_le (by omega) (by omega)) e⟩
      simp only [bb_M_sense_6, oIload, oAload, oIstore, oInc, oConst, o2, oDup, oPop, oDupX1, oDupX2, oDup2, oIf, oIfN, oCmp, oCmpN, oSwitch, oGetR, oGetI, oPutI, oPutZ, oIald, oZald, oIast, oZast, oRetI, oRetZ, oRetV, oCall, oRecv, oMax, List.map_cons, List.map_nil, List.getElem?_cons_zero, List.getElem?_cons_succ, List.set_cons_zero, List.set_cons_succ, List.length_cons, List.length_nil, List.cons_append, List.nil_append, List.append_nil, List.take_succ_cons, List.take_zero, List.drop_succ_cons, List.drop_zero, List.reverse_cons, List.reverse_nil, Option.toList, Value.category, List.sum_cons, List.sum_nil, zk_0, zk_1, zk_12, zk_20, zk_23, zk_27, zn_2, zn_3, zn_4, zn_5, zn_6, zn_7, zn_8, zn_9, zn_10, zn_11, zn_13, zn_14, zn_15, zn_16, zn_17, zn_18, zn_19, zn_21, zn_22, zn_24, zn_25, zn_26, zn_28, zn_29, zn_30, zn_31, zn_32, zn_33, zn_34, zn_35, zn_36, zn_37, zn_38, zn_39, zn_40, zn_41, zn_42, zn_43, zn_44, zn_45, zn_46, Nat.reduceAdd, Nat.reduceSub, Nat.reduceLeDiff, true_and, and_true]
      refine loop2 P.n 0 g1 _ (by omega) h1 fun j hj => ?_
      refine v3_eq (he j (by omega)) ?_ ?_ <;> simp [eEm]
    | succ n ih =>
      intro i g1 y hi h1 he
      have hM1 := h1.1.mr hM
      have k5 : ∀ v, v3 v (if i < 3 then P.ip i else false) (if i < 3 then P.ip i else false) → K 5 ([some (.ref 27), some (.int x), some (.int (nI i)), y], [.int v, .int (nI i), .ref 45], g1) := by
        intro v hv
        refine b5 _ ?_
        simp only [bb_M_sense_5, oIload, oAload, oIstore, oInc, oConst, o2, oDup, oPop, oDupX1, oDupX2, oDup2, oIf, oIfN, oCmp, oCmpN, oSwitch, oGetR, oGetI, oPutI, oPutZ, oIald, oZald, oIast, oZast, oRetI, oRetZ, oRetV, oCall, oRecv, oMax, List.map_cons, List.map_nil, List.getElem?_cons_zero, List.getElem?_cons_succ, List.set_cons_zero, List.set_cons_succ, List.length_cons, List.length_nil, List.cons_append, List.nil_append, List.append_nil, List.take_succ_cons, List.take_zero, List.drop_succ_cons, List.drop_zero, List.reverse_cons, List.reverse_nil, Option.toList, Value.category, List.sum_cons, List.sum_nil, zk_0, zk_1, zk_12, zk_20, zk_23, zk_27, zn_2, zn_3, zn_4, zn_5, zn_6, zn_7, zn_8, zn_9, zn_10, zn_11, zn_13, zn_14, zn_15, zn_16, zn_17, zn_18, zn_19, zn_21, zn_22, zn_24, zn_25, zn_26, zn_28, zn_29, zn_30, zn_31, zn_32, zn_33, zn_34, zn_35, zn_36, zn_37, zn_38, zn_39, zn_40, zn_41, zn_42, zn_43, zn_44, zn_45, zn_46, Nat.reduceAdd, Nat.reduceSub, Nat.reduceLeDiff, true_and, and_true]
        refine ⟨i, rfl, by omega, ?_⟩
        rw [nI_1]
        refine ih (i + 1) _ _ (by omega) (h1.em _ _) fun j hj => ?_
        by_cases e : j = i
        · subst e; rw [zU_at]; exact hv
        · rw [zU_off g1 45 i v e]; exact he j (by omega)
      have k3 : ∀ b : Int32, i < 3 → (b = 0 ↔ P.ip i = false) → K 3 ([some (.ref 27), some (.int x), some (.int (nI i)), y], [.int b, .int (nI i), .ref 45], g1) := by
        intro b h3 hb
        refine b3 _ ?_
        simp only [bb_M_sense_3, oIload, oAload, oIstore, oInc, oConst, o2, oDup, oPop, oDupX1, oDupX2, oDup2, oIf, oIfN, oCmp, oCmpN, oSwitch, oGetR, oGetI, oPutI, oPutZ, oIald, oZald, oIast, oZast, oRetI, oRetZ, oRetV, oCall, oRecv, oMax, List.map_cons, List.map_nil, List.getElem?_cons_zero, List.getElem?_cons_succ, List.set_cons_zero, List.set_cons_succ, List.length_cons, List.length_nil, List.cons_append, List.nil_append, List.append_nil, List.take_succ_cons, List.take_zero, List.drop_succ_cons, List.drop_zero, List.reverse_cons, List.reverse_nil, Option.toList, Value.category, List.sum_cons, List.sum_nil, zk_0, zk_1, zk_12, zk_20, zk_23, zk_27, zn_2, zn_3, zn_4, zn_5, zn_6, zn_7, zn_8, zn_9, zn_10, zn_11, zn_13, zn_14, zn_15, zn_16, zn_17, zn_18, zn_19, zn_21, zn_22, zn_24, zn_25, zn_26, zn_28, zn_29, zn_30, zn_31, zn_32, zn_33, zn_34, zn_35, zn_36, zn_37, zn_38, zn_39, zn_40, zn_41, zn_42, zn_43, zn_44, zn_45, zn_46, Nat.reduceAdd, Nat.reduceSub, Nat.reduceLeDiff, true_and, and_true]
        refine sp_M_told ?_
        simp only [oIload, oAload, oIstore, oInc, oConst, o2, oDup, oPop, oDupX1, oDupX2, oDup2, oIf, oIfN, oCmp, oCmpN, oSwitch, oGetR, oGetI, oPutI, oPutZ, oIald, oZald, oIast, oZast, oRetI, oRetZ, oRetV, oCall, oRecv, oMax, List.map_cons, List.map_nil, List.getElem?_cons_zero, List.getElem?_cons_succ, List.set_cons_zero, List.set_cons_succ, List.length_cons, List.length_nil, List.cons_append, List.nil_append, List.append_nil, List.take_succ_cons, List.take_zero, List.drop_succ_cons, List.drop_zero, List.reverse_cons, List.reverse_nil, Option.toList, Value.category, List.sum_cons, List.sum_nil, zk_0, zk_1, zk_12, zk_20, zk_23, zk_27, zn_2, zn_3, zn_4, zn_5, zn_6, zn_7, zn_8, zn_9, zn_10, zn_11, zn_13, zn_14, zn_15, zn_16, zn_17, zn_18, zn_19, zn_21, zn_22, zn_24, zn_25, zn_26, zn_28, zn_29, zn_30, zn_31, zn_32, zn_33, zn_34, zn_35, zn_36, zn_37, zn_38, zn_39, zn_40, zn_41, zn_42, zn_43, zn_44, zn_45, zn_46, Nat.reduceAdd, Nat.reduceSub, Nat.reduceLeDiff, true_and, and_true]
        refine k5 _ ?_
        rw [if_pos h3]
        exact v3_told hb
      have x3 : (3 : Int32) ≤ nI i ↔ 3 ≤ i := by rw [show (3 : Int32) = nI 3 from rfl]; exact nI_leI (by omega) (by omega)
      refine b1 _ ?_
      simp only [bb_M_sense_1, oIload, oAload, oIstore, oInc, oConst, o2, oDup, oPop, oDupX1, oDupX2, oDup2, oIf, oIfN, oCmp, oCmpN, oSwitch, oGetR, oGetI, oPutI, oPutZ, oIald, oZald, oIast, oZast, oRetI, oRetZ, oRetV, oCall, oRecv, oMax, List.map_cons, List.map_nil, List.getElem?_cons_zero, List.getElem?_cons_succ, List.set_cons_zero, List.set_cons_succ, List.length_cons, List.length_nil, List.cons_append, List.nil_append, List.append_nil, List.take_succ_cons, List.take_zero, List.drop_succ_cons, List.drop_zero, List.reverse_cons, List.reverse_nil, Option.toList, Value.category, List.sum_cons, List.sum_nil, zk_0, zk_1, zk_12, zk_20, zk_23, zk_27, zn_2, zn_3, zn_4, zn_5, zn_6, zn_7, zn_8, zn_9, zn_10, zn_11, zn_13, zn_14, zn_15, zn_16, zn_17, zn_18, zn_19, zn_21, zn_22, zn_24, zn_25, zn_26, zn_28, zn_29, zn_30, zn_31, zn_32, zn_33, zn_34, zn_35, zn_36, zn_37, zn_38, zn_39, zn_40, zn_41, zn_42, zn_43, zn_44, zn_45, zn_46, Nat.reduceAdd, Nat.reduceSub, Nat.reduceLeDiff, true_and, and_true]
      rw [hM1.2.2.2.1, x3]
      refine ⟨fun e => absurd e (nI_ge (by omega) (by omega)), fun _ => ⟨fun e => b4 _ ?_, fun e => ⟨fun e2 => b2 _ ?_, fun e2 => k3 _ (by omega) ?_⟩⟩⟩
      · simp only [bb_M_sense_4, oIload, oAload, oIstore, oInc, oConst, o2, oDup, oPop, oDupX1, oDupX2, oDup2, oIf, oIfN, oCmp, oCmpN, oSwitch, oGetR, oGetI, oPutI, oPutZ, oIald, oZald, oIast, oZast, oRetI, oRetZ, oRetV, oCall, oRecv, oMax, List.map_cons, List.map_nil, List.getElem?_cons_zero, List.getElem?_cons_succ, List.set_cons_zero, List.set_cons_succ, List.length_cons, List.length_nil, List.cons_append, List.nil_append, List.append_nil, List.take_succ_cons, List.take_zero, List.drop_succ_cons, List.drop_zero, List.reverse_cons, List.reverse_nil, Option.toList, Value.category, List.sum_cons, List.sum_nil, zk_0, zk_1, zk_12, zk_20, zk_23, zk_27, zn_2, zn_3, zn_4, zn_5, zn_6, zn_7, zn_8, zn_9, zn_10, zn_11, zn_13, zn_14, zn_15, zn_16, zn_17, zn_18, zn_19, zn_21, zn_22, zn_24, zn_25, zn_26, zn_28, zn_29, zn_30, zn_31, zn_32, zn_33, zn_34, zn_35, zn_36, zn_37, zn_38, zn_39, zn_40, zn_41, zn_42, zn_43, zn_44, zn_45, zn_46, Nat.reduceAdd, Nat.reduceSub, Nat.reduceLeDiff, true_and, and_true]
        refine k5 _ ?_
        rw [if_neg (by omega)]; exact v3_f
      · simp only [bb_M_sense_2, oIload, oAload, oIstore, oInc, oConst, o2, oDup, oPop, oDupX1, oDupX2, oDup2, oIf, oIfN, oCmp, oCmpN, oSwitch, oGetR, oGetI, oPutI, oPutZ, oIald, oZald, oIast, oZast, oRetI, oRetZ, oRetV, oCall, oRecv, oMax, List.map_cons, List.map_nil, List.getElem?_cons_zero, List.getElem?_cons_succ, List.set_cons_zero, List.set_cons_succ, List.length_cons, List.length_nil, List.cons_append, List.nil_append, List.append_nil, List.take_succ_cons, List.take_zero, List.drop_succ_cons, List.drop_zero, List.reverse_cons, List.reverse_nil, Option.toList, Value.category, List.sum_cons, List.sum_nil, zk_0, zk_1, zk_12, zk_20, zk_23, zk_27, zn_2, zn_3, zn_4, zn_5, zn_6, zn_7, zn_8, zn_9, zn_10, zn_11, zn_13, zn_14, zn_15, zn_16, zn_17, zn_18, zn_19, zn_21, zn_22, zn_24, zn_25, zn_26, zn_28, zn_29, zn_30, zn_31, zn_32, zn_33, zn_34, zn_35, zn_36, zn_37, zn_38, zn_39, zn_40, zn_41, zn_42, zn_43, zn_44, zn_45, zn_46, Nat.reduceAdd, Nat.reduceSub, Nat.reduceLeDiff, true_and, and_true]
        refine k3 _ (by omega) ?_
        have : (x >>> (nI i &&& 31)) &&& 1 = 0 := by
          rcases and1 (x >>> (nI i &&& 31)) with h0 | h0
          · exact h0
          · exact absurd h0 e2
        rw [hip i (by omega)]
        simp [jIn, this]
      · rw [hip i (by omega)]
        simp [jIn, e2]
  refine b0 _ ?_
  simp only [bb_M_sense_0, oIload, oAload, oIstore, oInc, oConst, o2, oDup, oPop, oDupX1, oDupX2, oDup2, oIf, oIfN, oCmp, oCmpN, oSwitch, oGetR, oGetI, oPutI, oPutZ, oIald, oZald, oIast, oZast, oRetI, oRetZ, oRetV, oCall, oRecv, oMax, List.map_cons, List.map_nil, List.getElem?_cons_zero, List.getElem?_cons_succ, List.set_cons_zero, List.set_cons_succ, List.length_cons, List.length_nil, List.cons_append, List.nil_append, List.append_nil, List.take_succ_cons, List.take_zero, List.drop_succ_cons, List.drop_zero, List.reverse_cons, List.reverse_nil, Option.toList, Value.category, List.sum_cons, List.sum_nil, zk_0, zk_1, zk_12, zk_20, zk_23, zk_27, zn_2, zn_3, zn_4, zn_5, zn_6, zn_7, zn_8, zn_9, zn_10, zn_11, zn_13, zn_14, zn_15, zn_16, zn_17, zn_18, zn_19, zn_21, zn_22, zn_24, zn_25, zn_26, zn_28, zn_29, zn_30, zn_31, zn_32, zn_33, zn_34, zn_35, zn_36, zn_37, zn_38, zn_39, zn_40, zn_41, zn_42, zn_43, zn_44, zn_45, zn_46, Nat.reduceAdd, Nat.reduceSub, Nat.reduceLeDiff, true_and, and_true]
  exact loop1 P.ns 0 g _ (by omega) hat fun j hj => absurd hj (by omega)
