/-! solve: the least solution -/
theorem eSig_congr {P : yP} {r r' : yR} (h : ∀ c, c < P.n → yw r c 0 = yw r' c 0) (i : Nat) : eSig P r i = eSig P r' i := by
  unfold eSig
  split
  · rfl
  · rw [Bool.eq_iff_iff, List.any_eq_true, List.any_eq_true]
    constructor
    · rintro ⟨c, hc, e⟩; exact ⟨c, hc, by rw [← h c (List.mem_range.mp hc)]; exact e⟩
    · rintro ⟨c, hc, e⟩; exact ⟨c, hc, by rw [h c (List.mem_range.mp hc)]; exact e⟩
/-- where nothing is known -/
def yBot (P : yP) : yX := (fun _ => false, fun v => match v with
  | (0, i) => decide (i < P.ns)
  | (c + 1, j) => decide (c < P.n) && decide (j < 11))
theorem eEq_in {P : yP} {r o : yR} : ∀ {v : Nat × Nat}, eEq P v r o = true → (yBot P).2 v = true
  | (0, i), h => by
    simp only [eEq] at h
    split at h
    · simpa [yBot]
    · cases h
  | (c + 1, j), h => by
    simp only [eEq] at h
    split at h
    · rename_i hc
      have hj : j < 11 := by
        refine Classical.byContradiction fun hj => ?_
        rw [if_neg (by omega), if_neg (by omega), if_neg (by omega), if_neg (by omega), if_neg (by omega), if_neg hj] at h
        cases h
      simp [yBot, hc, hj]
    · cases h
theorem yBot_ch (P : yP) : yCh (eEq P) (yBot P) := by
  refine ⟨⟨fun v hv => by simp [yBot] at hv, fun v hv => eEq_in hv⟩, fun y hy => ⟨fun v hv => by simp [yBot] at hv, fun v hv => ?_⟩⟩
  rw [(hy v).2] at hv
  exact eEq_in hv
/-- both rows' signals gathered: g3 from g1 -/
def zGd (g1 g3 : zM) (P : yP) : Prop := ∀ a, (a = 20 ∨ a = 23) → (∀ c j, zr g3 P a (c + 1, j) = zr g1 P a (c + 1, j)) ∧ (∀ i, i < 3 → g3 (a + 2) i = g1 (a + 2) i) ∧ ∀ i, 3 ≤ i → i < P.ns → zr g3 P a (0, i) = eSig P (zr g1 P a) i
theorem zGd_of {g1 g2 g3 : zM} {P : yP} (f1 : zFs 20 g1 g2) (s1 : ∀ i, 3 ≤ i → i < P.ns → (g2 22 i = 0 ↔ eSig P (zr g1 P 20) i = false)) (f2 : zFs 23 g2 g3) (s2 : ∀ i, 3 ≤ i → i < P.ns → (g3 25 i = 0 ↔ eSig P (zr g2 P 23) i = false)) : zGd g1 g3 P := by
  have e21 : g3 21 = g1 21 := by rw [f2.1 21 (by omega), f1.1 21 (by omega)]
  have e24 : g3 24 = g1 24 := by rw [f2.1 24 (by omega), f1.1 24 (by omega)]
  have e22 : g3 22 = g2 22 := f2.1 22 (by omega)
  have e25 : g2 25 = g1 25 := f1.1 25 (by omega)
  have dec : ∀ (x : Int32) (b : Bool), (x = 0 ↔ b = false) → (!decide (x = 0)) = b := by
    intro x b hb
    cases b with
    | false => simp [hb.mpr rfl]
    | true => simp; intro e; have := hb.mp e; simp at this
  rintro a (rfl | rfl)
  · refine ⟨fun c j => by simp only [zr]; rw [e21], fun i hi => by rw [e22]; exact f1.2 i hi, fun i h3 hn => ?_⟩
    simp only [zr, hn, decide_true, Bool.true_and]
    rw [e22]
    exact dec _ _ (s1 i h3 hn)
  · refine ⟨fun c j => by simp only [zr]; rw [e24], fun i hi => by rw [f2.2 i hi, e25], fun i h3 hn => ?_⟩
    simp only [zr, hn, decide_true, Bool.true_and]
    rw [dec _ _ (s2 i h3 hn)]
    refine eSig_congr (fun c hc => ?_) i
    simp only [yw, zr]
    rw [f1.1 24 (by omega)]
theorem zGd.upd {g1 g3 : zM} {P : yP} (h : zGd g1 g3 P) : yUpd (eEq P) (xs g1 P) (xs g3 P) := by
  have key : ∀ a, (a = 20 ∨ a = 23) → ∀ o v, zr g3 P a v = zr g1 P a v ∨ zr g3 P a v = eEq P v (zr g1 P a) o := by
    intro a ha o v
    obtain ⟨h1, h2, h3⟩ := h a ha
    obtain ⟨x, j⟩ := v
    cases x with
    | succ c => exact Or.inl (h1 c j)
    | zero =>
      by_cases hj : 3 ≤ j ∧ j < P.ns
      · right
        rw [h3 j hj.1 hj.2]
        simp [eEq, hj.2]
      · left
        simp only [zr]
        by_cases hn : j < P.ns
        · rw [h2 j (by omega)]
        · simp [hn]
  exact ⟨fun v => key 20 (Or.inl rfl) _ v, fun v => key 23 (Or.inr rfl) _ v⟩
theorem zGd.bot {g1 g3 : zM} {P : yP} {x : Int32} (h : zGd g1 g3 P) (hw : ∀ c, c < P.n → g1 21 c = 0 ∧ g1 24 c = 2047) (hs : ∀ i, i < 3 → g1 22 i = jIn x i ∧ g1 25 i = jIn x i) (hip : ∀ i, i < 3 → P.ip i = !decide (jIn x i = 0)) : yUpd (eEq P) (yBot P) (xs g3 P) := by
  have w1 : ∀ c j, zr g1 P 20 (c + 1, j) = (yBot P).1 (c + 1, j) := by
    intro c j
    by_cases hc : c < P.n
    · simp only [zr, yBot]; rw [(hw c hc).1, b_0]; simp
    · simp [zr, yBot, hc]
  have b2047 : ∀ j, j < 11 → bt 2047 (zbi j) = true := by decide
  have w2 : ∀ c j, zr g1 P 23 (c + 1, j) = (yBot P).2 (c + 1, j) := by
    intro c j
    by_cases hc : c < P.n
    · by_cases hj : j < 11
      · simp only [zr, yBot]; rw [(hw c hc).2, b2047 j hj]; simp
      · simp [zr, yBot, hj]
    · simp [zr, yBot, hc]
  obtain ⟨a1, a2, a3⟩ := h 20 (Or.inl rfl)
  obtain ⟨c1, c2, c3⟩ := h 23 (Or.inr rfl)
  refine ⟨fun v => ?_, fun v => ?_⟩
  · obtain ⟨y, j⟩ := v
    cases y with
    | succ c => left; show zr g3 P 20 (c + 1, j) = _; rw [a1, w1]
    | zero =>
      by_cases hn : j < P.ns
      · right
        show zr g3 P 20 (0, j) = _
        by_cases h3 : j < 3
        · simp only [zr, hn, decide_true, Bool.true_and, eEq, if_true, eSig, h3]
          rw [a2 j h3, (hs j h3).1, hip j h3]
        · rw [a3 j (by omega) hn]
          simp only [eEq, hn, if_true]
          refine eSig_congr (fun c hc => ?_) j
          exact w1 c 0
      · left; show zr g3 P 20 (0, j) = _; simp [zr, hn, yBot]
  · obtain ⟨y, j⟩ := v
    cases y with
    | succ c => left; show zr g3 P 23 (c + 1, j) = _; rw [c1, w2]
    | zero =>
      by_cases hn : j < P.ns
      · right
        show zr g3 P 23 (0, j) = _
        by_cases h3 : j < 3
        · simp only [zr, hn, decide_true, Bool.true_and, eEq, if_true, eSig, h3]
          rw [c2 j h3, (hs j h3).2, hip j h3]
        · rw [c3 j (by omega) hn]
          simp only [eEq, hn, if_true]
          refine eSig_congr (fun c hc => ?_) j
          exact w2 c 0
      · left; show zr g3 P 23 (0, j) = _; simp [zr, hn, yBot]
theorem yCnt_congr {x y : yX} : ∀ (vs : List (Nat × Nat)), (∀ v ∈ vs, x.1 v = y.1 v ∧ x.2 v = y.2 v) → yCnt vs x = yCnt vs y
  | [], _ => rfl
  | v :: vs, h => by
    simp only [yCnt]
    rw [(h v List.mem_cons_self).1, (h v List.mem_cons_self).2, yCnt_congr vs (fun w hw => h w (List.mem_cons_of_mem _ hw))]
theorem zGd.cnt {g1 g3 : zM} {P : yP} (h : zGd g1 g3 P) : yCnt (vsW P.n) (xs g3 P) = yCnt (vsW P.n) (xs g1 P) := by
  refine yCnt_congr _ fun v hv => ?_
  obtain ⟨c, -, hv⟩ := List.mem_flatMap.mp hv
  obtain ⟨j, -, rfl⟩ := List.mem_map.mp hv
  exact ⟨(h 20 (Or.inl rfl)).1 c j, (h 23 (Or.inr rfl)).1 c j⟩
/-- every wire has its step -/
def zCov (P : yP) (m : Nat) (st : Nat → Nat × Bool) : Prop := ∀ c, c < P.n → ∀ b, ∃ i, i < m ∧ st i = (c, b)
theorem zfix_of {g1 g3 : zM} {P : yP} {m : Nat} {st : Nat → Nat × Bool} {x : Int32} (h : zGd g1 g3 P) (hcov : zCov P m st) (hok : ∀ i, i < m → zOk g3 P (st i).1 (st i).2) (hs : ∀ i, i < 3 → g1 22 i = jIn x i ∧ g1 25 i = jIn x i) (hip : ∀ i, i < 3 → P.ip i = !decide (jIn x i = 0)) : yFix (eEq P) (xs g3 P) := by
  intro v
  obtain ⟨y, j⟩ := v
  cases y with
  | succ c =>
    by_cases hc : c < P.n
    · by_cases hj : j < 11
      · obtain ⟨i, hi, e⟩ := hcov c hc (decide (j < 4))
        have h1 := hok i hi
        rw [e] at h1
        exact h1 j hj (by simp)
      · have z : ∀ r o, eEq P (c + 1, j) r o = false := by
          intro r o
          cases hq : eEq P (c + 1, j) r o with
          | false => rfl
          | true => have := eEq_in hq; simp [yBot, hj] at this
        rw [z, z]
        simp [xs, zr, hj]
    · have z : ∀ r o, eEq P (c + 1, j) r o = false := by
        intro r o
        cases hq : eEq P (c + 1, j) r o with
        | false => rfl
        | true => have := eEq_in hq; simp [yBot, hc] at this
      rw [z, z]
      simp [xs, zr, hc]
  | zero =>
    obtain ⟨a1, a2, a3⟩ := h 20 (Or.inl rfl)
    obtain ⟨c1, c2, c3⟩ := h 23 (Or.inr rfl)
    by_cases hn : j < P.ns
    · by_cases h3 : j < 3
      · simp only [xs, zr, hn, decide_true, Bool.true_and, eEq, if_true, eSig, h3]
        rw [a2 j h3, c2 j h3, (hs j h3).1, (hs j h3).2, hip j h3]
        exact ⟨rfl, rfl⟩
      · refine ⟨?_, ?_⟩
        · show zr g3 P 20 (0, j) = _
          rw [a3 j (by omega) hn]
          simp only [eEq, hn, if_true]
          refine eSig_congr (fun c hc => ?_) j
          exact (a1 c 0).symm
        · show zr g3 P 23 (0, j) = _
          rw [c3 j (by omega) hn]
          simp only [eEq, hn, if_true]
          refine eSig_congr (fun c hc => ?_) j
          exact (c1 c 0).symm
    · simp [xs, zr, eEq, hn]
set_option maxHeartbeats 8000000 in
theorem sp_P_solve {l : Launch} {d : Nat} {g : zM} {r : Option Value → zM → Prop} {P : yP} {m : Nat} {st : Nat → Nat × Bool} {x : Int32} (hP : zPr g P) (hE : ∀ c, c < P.n → P.kd c = 2 → 3 ≤ P.nm c) (hst : zSt g P m st) (hcov : zCov P m st) (hip : ∀ i, i < 3 → P.ip i = !decide (jIn x i = 0))
    (h : ∀ g1, zF4 g g1 → zHi g1 P → yCh (eEq P) (xs g1 P) → yFix (eEq P) (xs g1 P) → r none g1) : qs_P_solve l (d + 6) [.ref 12, .int x] g r := by
  have hn := hP.2.2.1
  have hst' : ∀ g1, zF4 g g1 → zSt g1 P m st := by
    intro g1 hf
    obtain ⟨s1, s2, s3⟩ := hst
    refine ⟨by rw [hf 12 (by omega)]; exact s1, s2, fun i hi => ?_⟩
    rw [hf 18 (by omega)]; exact s3 i hi
  refine ss_P_solve fun K b0 b1 b2 => ?_
  have loop : ∀ n k g1, k + n = 6601 → zF4 g g1 → zHi g1 P → (∀ i, i < 3 → g1 22 i = jIn x i ∧ g1 25 i = jIn x i) → (yCh (eEq P) (xs g1 P) ∨ ∀ c, c < P.n → g1 21 c = 0 ∧ g1 24 c = 2047) → yCnt (vsW P.n) (xs g1 P) + k ≤ 6600 → K 1 ([some (.ref 12), some (.int x), some (.int 1), some (.int (nI k))], [], g1) := by
    intro n
    induction n with
    | zero => intro k g1 hk hf hi hs hch hcnt; omega
    | succ n ih =>
      intro k g1 hk hf hi hs hch hcnt
      have hP1 : zPr g1 P := zPr_row hP hf
      refine b1 _ ?_
      simp only [bb_P_solve_1, oIload, oAload, oIstore, oInc, oConst, o2, oDup, oPop, oDupX1, oDupX2, oDup2, oIf, oIfN, oCmp, oCmpN, oSwitch, oGetR, oGetI, oPutI, oPutZ, oIald, oZald, oIast, oZast, oRetI, oRetZ, oRetV, oCall, oRecv, oMax, List.map_cons, List.map_nil, List.getElem?_cons_zero, List.getElem?_cons_succ, List.set_cons_zero, List.set_cons_succ, List.length_cons, List.length_nil, List.cons_append, List.nil_append, List.append_nil, List.take_succ_cons, List.take_zero, List.drop_succ_cons, List.drop_zero, List.reverse_cons, List.reverse_nil, Option.toList, Value.category, List.sum_cons, List.sum_nil, zk_0, zk_1, zk_12, zk_20, zk_23, zk_27, zn_2, zn_3, zn_4, zn_5, zn_6, zn_7, zn_8, zn_9, zn_10, zn_11, zn_13, zn_14, zn_15, zn_16, zn_17, zn_18, zn_19, zn_21, zn_22, zn_24, zn_25, zn_26, zn_28, zn_29, zn_30, zn_31, zn_32, zn_33, zn_34, zn_35, zn_36, zn_37, zn_38, zn_39, zn_40, zn_41, zn_42, zn_43, zn_44, zn_45, zn_46, Nat.reduceAdd, Nat.reduceSub, Nat.reduceLeDiff, true_and, and_true]
      refine ⟨fun e => absurd e (by decide), fun _ => ⟨fun e => absurd e (nI_ge (a := k) (b := 10000) (by omega) (by omega)), fun _ => ?_⟩⟩
      refine sp_P_gatherSignals hP1 hE (Or.inl rfl) fun g2 f1 s1 => ?_
      simp only [oIload, oAload, oIstore, oInc, oConst, o2, oDup, oPop, oDupX1, oDupX2, oDup2, oIf, oIfN, oCmp, oCmpN, oSwitch, oGetR, oGetI, oPutI, oPutZ, oIald, oZald, oIast, oZast, oRetI, oRetZ, oRetV, oCall, oRecv, oMax, List.map_cons, List.map_nil, List.getElem?_cons_zero, List.getElem?_cons_succ, List.set_cons_zero, List.set_cons_succ, List.length_cons, List.length_nil, List.cons_append, List.nil_append, List.append_nil, List.take_succ_cons, List.take_zero, List.drop_succ_cons, List.drop_zero, List.reverse_cons, List.reverse_nil, Option.toList, Value.category, List.sum_cons, List.sum_nil, zk_0, zk_1, zk_12, zk_20, zk_23, zk_27, zn_2, zn_3, zn_4, zn_5, zn_6, zn_7, zn_8, zn_9, zn_10, zn_11, zn_13, zn_14, zn_15, zn_16, zn_17, zn_18, zn_19, zn_21, zn_22, zn_24, zn_25, zn_26, zn_28, zn_29, zn_30, zn_31, zn_32, zn_33, zn_34, zn_35, zn_36, zn_37, zn_38, zn_39, zn_40, zn_41, zn_42, zn_43, zn_44, zn_45, zn_46, Nat.reduceAdd, Nat.reduceSub, Nat.reduceLeDiff, true_and, and_true]
      have hP2 : zPr g2 P := zPr_row hP1 fun k hk => f1.1 k (by omega)
      refine sp_P_gatherSignals hP2 hE (Or.inr rfl) fun g3 f2 s2 => ?_
      simp only [oIload, oAload, oIstore, oInc, oConst, o2, oDup, oPop, oDupX1, oDupX2, oDup2, oIf, oIfN, oCmp, oCmpN, oSwitch, oGetR, oGetI, oPutI, oPutZ, oIald, oZald, oIast, oZast, oRetI, oRetZ, oRetV, oCall, oRecv, oMax, List.map_cons, List.map_nil, List.getElem?_cons_zero, List.getElem?_cons_succ, List.set_cons_zero, List.set_cons_succ, List.length_cons, List.length_nil, List.cons_append, List.nil_append, List.append_nil, List.take_succ_cons, List.take_zero, List.drop_succ_cons, List.drop_zero, List.reverse_cons, List.reverse_nil, Option.toList, Value.category, List.sum_cons, List.sum_nil, zk_0, zk_1, zk_12, zk_20, zk_23, zk_27, zn_2, zn_3, zn_4, zn_5, zn_6, zn_7, zn_8, zn_9, zn_10, zn_11, zn_13, zn_14, zn_15, zn_16, zn_17, zn_18, zn_19, zn_21, zn_22, zn_24, zn_25, zn_26, zn_28, zn_29, zn_30, zn_31, zn_32, zn_33, zn_34, zn_35, zn_36, zn_37, zn_38, zn_39, zn_40, zn_41, zn_42, zn_43, zn_44, zn_45, zn_46, Nat.reduceAdd, Nat.reduceSub, Nat.reduceLeDiff, true_and, and_true]
      have hgd := zGd_of f1 s1 f2 s2
      have hf3 : zF4 g g3 := fun k hk => by rw [f2.1 k (by omega), f1.1 k (by omega)]; exact hf k hk
      have hP3 : zPr g3 P := zPr_row hP hf3
      have hi3 : zHi g3 P := by
        intro c hc i h1 h2
        rw [f2.1 21 (by omega), f1.1 21 (by omega), f2.1 24 (by omega), f1.1 24 (by omega)]
        exact hi c hc i h1 h2
      have hch3 : yCh (eEq P) (xs g3 P) := by
        rcases hch with h1 | h1
        · exact hgd.upd.ch (eEq_mono P) h1
        · exact (hgd.bot h1 hs hip).ch (eEq_mono P) (yBot_ch P)
      have hs3 : ∀ i, i < 3 → g3 22 i = jIn x i ∧ g3 25 i = jIn x i := by
        intro i hi
        have e1 := (hgd 20 (Or.inl rfl)).2.1 i hi
        have e2 := (hgd 23 (Or.inr rfl)).2.1 i hi
        exact ⟨e1.trans (hs i hi).1, e2.trans (hs i hi).2⟩
      refine sp_P_takeAllSteps hP3 (hst' g3 hf3) hi3 hch3 fun b g4 hat => ?_
      simp only [oIload, oAload, oIstore, oInc, oConst, o2, oDup, oPop, oDupX1, oDupX2, oDup2, oIf, oIfN, oCmp, oCmpN, oSwitch, oGetR, oGetI, oPutI, oPutZ, oIald, oZald, oIast, oZast, oRetI, oRetZ, oRetV, oCall, oRecv, oMax, List.map_cons, List.map_nil, List.getElem?_cons_zero, List.getElem?_cons_succ, List.set_cons_zero, List.set_cons_succ, List.length_cons, List.length_nil, List.cons_append, List.nil_append, List.append_nil, List.take_succ_cons, List.take_zero, List.drop_succ_cons, List.drop_zero, List.reverse_cons, List.reverse_nil, Option.toList, Value.category, List.sum_cons, List.sum_nil, zk_0, zk_1, zk_12, zk_20, zk_23, zk_27, zn_2, zn_3, zn_4, zn_5, zn_6, zn_7, zn_8, zn_9, zn_10, zn_11, zn_13, zn_14, zn_15, zn_16, zn_17, zn_18, zn_19, zn_21, zn_22, zn_24, zn_25, zn_26, zn_28, zn_29, zn_30, zn_31, zn_32, zn_33, zn_34, zn_35, zn_36, zn_37, zn_38, zn_39, zn_40, zn_41, zn_42, zn_43, zn_44, zn_45, zn_46, Nat.reduceAdd, Nat.reduceSub, Nat.reduceLeDiff, true_and, and_true]
      rw [nI_1]
      obtain ⟨z1, z2, z3, z4⟩ := hat
      have hf4 : zF4 g g4 := fun k hk => by rw [z1 k (by omega) (by omega)]; exact hf3 k hk
      rcases z4 with ⟨rfl, rfl, hok⟩ | ⟨rfl, hlt⟩
      · refine b1 _ ?_
        simp only [bb_P_solve_1, oIload, oAload, oIstore, oInc, oConst, o2, oDup, oPop, oDupX1, oDupX2, oDup2, oIf, oIfN, oCmp, oCmpN, oSwitch, oGetR, oGetI, oPutI, oPutZ, oIald, oZald, oIast, oZast, oRetI, oRetZ, oRetV, oCall, oRecv, oMax, List.map_cons, List.map_nil, List.getElem?_cons_zero, List.getElem?_cons_succ, List.set_cons_zero, List.set_cons_succ, List.length_cons, List.length_nil, List.cons_append, List.nil_append, List.append_nil, List.take_succ_cons, List.take_zero, List.drop_succ_cons, List.drop_zero, List.reverse_cons, List.reverse_nil, Option.toList, Value.category, List.sum_cons, List.sum_nil, zk_0, zk_1, zk_12, zk_20, zk_23, zk_27, zn_2, zn_3, zn_4, zn_5, zn_6, zn_7, zn_8, zn_9, zn_10, zn_11, zn_13, zn_14, zn_15, zn_16, zn_17, zn_18, zn_19, zn_21, zn_22, zn_24, zn_25, zn_26, zn_28, zn_29, zn_30, zn_31, zn_32, zn_33, zn_34, zn_35, zn_36, zn_37, zn_38, zn_39, zn_40, zn_41, zn_42, zn_43, zn_44, zn_45, zn_46, Nat.reduceAdd, Nat.reduceSub, Nat.reduceLeDiff, true_and, and_true]
        refine ⟨fun _ => b2 _ ?_, fun e => absurd trivial e⟩
        simp only [bb_P_solve_2, oIload, oAload, oIstore, oInc, oConst, o2, oDup, oPop, oDupX1, oDupX2, oDup2, oIf, oIfN, oCmp, oCmpN, oSwitch, oGetR, oGetI, oPutI, oPutZ, oIald, oZald, oIast, oZast, oRetI, oRetZ, oRetV, oCall, oRecv, oMax, List.map_cons, List.map_nil, List.getElem?_cons_zero, List.getElem?_cons_succ, List.set_cons_zero, List.set_cons_succ, List.length_cons, List.length_nil, List.cons_append, List.nil_append, List.append_nil, List.take_succ_cons, List.take_zero, List.drop_succ_cons, List.drop_zero, List.reverse_cons, List.reverse_nil, Option.toList, Value.category, List.sum_cons, List.sum_nil, zk_0, zk_1, zk_12, zk_20, zk_23, zk_27, zn_2, zn_3, zn_4, zn_5, zn_6, zn_7, zn_8, zn_9, zn_10, zn_11, zn_13, zn_14, zn_15, zn_16, zn_17, zn_18, zn_19, zn_21, zn_22, zn_24, zn_25, zn_26, zn_28, zn_29, zn_30, zn_31, zn_32, zn_33, zn_34, zn_35, zn_36, zn_37, zn_38, zn_39, zn_40, zn_41, zn_42, zn_43, zn_44, zn_45, zn_46, Nat.reduceAdd, Nat.reduceSub, Nat.reduceLeDiff, true_and, and_true]
        exact h _ hf4 z2 z3 (zfix_of hgd hcov hok hs hip)
      · refine ih (k + 1) g4 (by omega) hf4 z2 (fun i hi => ?_) (Or.inl z3) ?_
        · rw [z1 22 (by omega) (by omega), z1 25 (by omega) (by omega)]; exact hs3 i hi
        · have := hgd.cnt
          omega
  refine b0 _ ?_
  simp only [bb_P_solve_0, oIload, oAload, oIstore, oInc, oConst, o2, oDup, oPop, oDupX1, oDupX2, oDup2, oIf, oIfN, oCmp, oCmpN, oSwitch, oGetR, oGetI, oPutI, oPutZ, oIald, oZald, oIast, oZast, oRetI, oRetZ, oRetV, oCall, oRecv, oMax, List.map_cons, List.map_nil, List.getElem?_cons_zero, List.getElem?_cons_succ, List.set_cons_zero, List.set_cons_succ, List.length_cons, List.length_nil, List.cons_append, List.nil_append, List.append_nil, List.take_succ_cons, List.take_zero, List.drop_succ_cons, List.drop_zero, List.reverse_cons, List.reverse_nil, Option.toList, Value.category, List.sum_cons, List.sum_nil, zk_0, zk_1, zk_12, zk_20, zk_23, zk_27, zn_2, zn_3, zn_4, zn_5, zn_6, zn_7, zn_8, zn_9, zn_10, zn_11, zn_13, zn_14, zn_15, zn_16, zn_17, zn_18, zn_19, zn_21, zn_22, zn_24, zn_25, zn_26, zn_28, zn_29, zn_30, zn_31, zn_32, zn_33, zn_34, zn_35, zn_36, zn_37, zn_38, zn_39, zn_40, zn_41, zn_42, zn_43, zn_44, zn_45, zn_46, Nat.reduceAdd, Nat.reduceSub, Nat.reduceLeDiff, true_and, and_true]
  refine sp_P_makeUnknown hP fun g1 hf hw hs => ?_
  simp only [oIload, oAload, oIstore, oInc, oConst, o2, oDup, oPop, oDupX1, oDupX2, oDup2, oIf, oIfN, oCmp, oCmpN, oSwitch, oGetR, oGetI, oPutI, oPutZ, oIald, oZald, oIast, oZast, oRetI, oRetZ, oRetV, oCall, oRecv, oMax, List.map_cons, List.map_nil, List.getElem?_cons_zero, List.getElem?_cons_succ, List.set_cons_zero, List.set_cons_succ, List.length_cons, List.length_nil, List.cons_append, List.nil_append, List.append_nil, List.take_succ_cons, List.take_zero, List.drop_succ_cons, List.drop_zero, List.reverse_cons, List.reverse_nil, Option.toList, Value.category, List.sum_cons, List.sum_nil, zk_0, zk_1, zk_12, zk_20, zk_23, zk_27, zn_2, zn_3, zn_4, zn_5, zn_6, zn_7, zn_8, zn_9, zn_10, zn_11, zn_13, zn_14, zn_15, zn_16, zn_17, zn_18, zn_19, zn_21, zn_22, zn_24, zn_25, zn_26, zn_28, zn_29, zn_30, zn_31, zn_32, zn_33, zn_34, zn_35, zn_36, zn_37, zn_38, zn_39, zn_40, zn_41, zn_42, zn_43, zn_44, zn_45, zn_46, Nat.reduceAdd, Nat.reduceSub, Nat.reduceLeDiff, true_and, and_true]
  have b2047 : ∀ i, i < 32 → 11 ≤ i → bt 2047 i = false := by decide +kernel
  refine loop 6601 0 g1 (by omega) hf ?_ hs (Or.inr hw) ?_
  · intro c hc i h1 h2
    rw [(hw c hc).1, (hw c hc).2]
    exact ⟨b_0 i, b2047 i h2 h1⟩
  · have := yCnt_max (vsW P.n) (xs g1 P)
    rw [vsW_len] at this
    omega
