/-! the class builds -/
def yS0 : yS := ((0, 8, 0), fun _ => 0, fun _ => 0, fun _ => 0, fun _ => 0, fun _ => 0, fun _ => 0, fun _ => 0)
def yTop (F : yF) (i : Nat) : yS := yBld F 20 i 0 0 id yS0
def yPof (S : yS) (rg : Nat → Bool) (f0 : Bool) (ip : Nat → Bool) : yP := ((S.c, S.s), S.kd, S.nm, S.pa, S.fi, S.se, rg, f0, ip)
/-- the copies that stand: their order -/
def yOk (F : yF) (S : yS) : Prop := 1 ≤ S.c ∧ S.c ≤ 300 ∧ S.r ≤ 60 ∧ 8 ≤ S.s ∧ S.s ≤ 308 ∧ ∀ x, x < S.c → yRw F S x ∧ (0 < x → yPa S x)
/-- the class's rows hold them -/
def zBc (g : zM) (S : yS) : Prop := g 12 10 = nI S.c ∧ g 12 11 = nI S.r ∧ g 12 12 = nI S.s ∧ (∀ x, x < S.c → zRc g S x ∧ (x = 0 → g 15 x = -1) ∧ (0 < x → g 15 x = nI (S.pa x))) ∧ ∃ m, m ≤ 600 ∧ g 12 13 = nI m ∧ zSp g 0 S.c 0 m
theorem yEo_0 : yEo id 8 := ⟨Nat.le_refl _, fun _ hj => ⟨hj, fun h => h⟩⟩
theorem yTop_ok {F : yF} (hw : yFw F) {i : Nat} (hi : i < F.n) (h1 : F.cp i ≤ 300) (h2 : F.ps i ≤ 60) : yOk F (yTop F i) ∧ (yTop F i).c = F.cp i ∧ (yTop F i).r = F.ps i := by
  have hd : F.dp i ≤ 20 := (hw.2.2 i hi).2.2.2.2.2.2.2.2.2.2.2.1
  obtain ⟨a1, a2, a3, a4, a5⟩ := yBld_cnt hw 20 i 0 0 id yS0 (Or.inl hi) hd
  have wf := yBld_wf hw 20 i 0 0 id yS0 (Or.inl hi) hd yEo_0
  have c0 : yS0.c = 0 := rfl
  have s0 : yS0.s = 8 := rfl
  have r0 : yS0.r = 0 := rfl
  have := hw.cp1 hi
  unfold yTop
  generalize yBld F 20 i 0 0 id yS0 = S at *
  refine ⟨⟨by omega, by omega, by omega, by omega, by omega, fun x hx => ?_⟩, by omega, by omega⟩
  obtain ⟨w1, -, w3⟩ := wf x (by omega) hx
  exact ⟨w1, fun h => w3 (by omega)⟩
section SPB
variable {l : Launch} {d : Nat} {g : zM} {r : Option Value → zM → Prop}
set_option maxHeartbeats 4000000 in
theorem sp_P_becomeCopiesOf {F : yF} (hw : yFw F) {i : Nat} (hi : i < F.n) (hF : zFcl g F) (h1 : F.cp i ≤ 300) (h2 : F.ps i ≤ 60)
    (h : ∀ G, (∀ k, (k < 12 ∨ (19 < k ∧ k ≠ 26)) → G k = g k) → (∀ j, j < 10 → G 12 j = g 12 j) → zBc G (yTop F i) → G 12 14 = 0 → G 12 15 = 0 → G 12 16 = 0 → (∀ j, j < (yTop F i).r → G 26 j = 0) → r none G) : qs_P_becomeCopiesOf l (d + 24) [.ref 12, .ref 1, .int (nI i)] g r := by
  have hd : F.dp i ≤ 20 := (hw.2.2 i hi).2.2.2.2.2.2.2.2.2.2.2.1
  obtain ⟨ok, tc, tr⟩ := yTop_ok hw hi h1 h2
  have hi6 : i < 60 := Nat.lt_of_lt_of_le hi hw.1
  refine ss_P_becomeCopiesOf fun K b0 b1 b2 => ?_
  have k2 : ∀ (gg : zM) y3, (∀ k, (k < 12 ∨ 19 < k) → gg k = g k) → (∀ j, j < 10 → gg 12 j = g 12 j) → zAC gg yS0 id 0 → K 2 ([some (.ref 12), some (.ref 1), some (.int (nI i)), y3], [], gg) := by
    intro gg y3 g1 g2 g3
    refine b2 _ ?_
    simp only [bb_P_becomeCopiesOf_2, oIload, oAload, oIstore, oInc, oConst, o2, oDup, oPop, oDupX1, oDupX2, oDup2, oIf, oIfN, oCmp, oCmpN, oSwitch, oGetR, oGetI, oPutI, oPutZ, oIald, oZald, oIast, oZast, oRetI, oRetZ, oRetV, oCall, oRecv, oMax, List.map_cons, List.map_nil, List.getElem?_cons_zero, List.getElem?_cons_succ, List.set_cons_zero, List.set_cons_succ, List.length_cons, List.length_nil, List.cons_append, List.nil_append, List.append_nil, List.take_succ_cons, List.take_zero, List.drop_succ_cons, List.drop_zero, List.reverse_cons, List.reverse_nil, Option.toList, Value.category, List.sum_cons, List.sum_nil, zk_0, zk_1, zk_12, zk_20, zk_23, zk_27, zn_2, zn_3, zn_4, zn_5, zn_6, zn_7, zn_8, zn_9, zn_10, zn_11, zn_13, zn_14, zn_15, zn_16, zn_17, zn_18, zn_19, zn_21, zn_22, zn_24, zn_25, zn_26, zn_28, zn_29, zn_30, zn_31, zn_32, zn_33, zn_34, zn_35, zn_36, zn_37, zn_38, zn_39, zn_40, zn_41, zn_42, zn_43, zn_44, zn_45, zn_46, Nat.reduceAdd, Nat.reduceSub, Nat.reduceLeDiff, true_and, and_true]
    rw [← pI_lt hi6]
    refine sp_P_addCopy (d := d) hw 20 i 0 0 id yS0 0 (-1) gg _ (Or.inl hi) hd (hF.fr fun k hk => g1 k (by omega)) g3 (by show 0 + _ ≤ _; omega) (by show 0 + _ ≤ _; omega) (Nat.le_refl _) (Nat.le_refl _) ?_
    intro G hG
    change zAPo gg G yS0 (yTop F i) id 0 (0 + 2 * F.cp i) (-1) at hG
    obtain ⟨G1, ⟨G2, G3, G4, G5, G6⟩, G7, G8⟩ := hG
    simp only [oIload, oAload, oIstore, oInc, oConst, o2, oDup, oPop, oDupX1, oDupX2, oDup2, oIf, oIfN, oCmp, oCmpN, oSwitch, oGetR, oGetI, oPutI, oPutZ, oIald, oZald, oIast, oZast, oRetI, oRetZ, oRetV, oCall, oRecv, oMax, List.map_cons, List.map_nil, List.getElem?_cons_zero, List.getElem?_cons_succ, List.set_cons_zero, List.set_cons_succ, List.length_cons, List.length_nil, List.cons_append, List.nil_append, List.append_nil, List.take_succ_cons, List.take_zero, List.drop_succ_cons, List.drop_zero, List.reverse_cons, List.reverse_nil, Option.toList, Value.category, List.sum_cons, List.sum_nil, zk_0, zk_1, zk_12, zk_20, zk_23, zk_27, zn_2, zn_3, zn_4, zn_5, zn_6, zn_7, zn_8, zn_9, zn_10, zn_11, zn_13, zn_14, zn_15, zn_16, zn_17, zn_18, zn_19, zn_21, zn_22, zn_24, zn_25, zn_26, zn_28, zn_29, zn_30, zn_31, zn_32, zn_33, zn_34, zn_35, zn_36, zn_37, zn_38, zn_39, zn_40, zn_41, zn_42, zn_43, zn_44, zn_45, zn_46, Nat.reduceAdd, Nat.reduceSub, Nat.reduceLeDiff, true_and, and_true]
    refine sp_P_rewind (n := (yTop F i).r) (by rw [zU_off _ _ _ _ (by omega)]; exact G3) ok.2.2.1 ?_
    intro H h3 h4 h5 h6 h7
    simp only [oIload, oAload, oIstore, oInc, oConst, o2, oDup, oPop, oDupX1, oDupX2, oDup2, oIf, oIfN, oCmp, oCmpN, oSwitch, oGetR, oGetI, oPutI, oPutZ, oIald, oZald, oIast, oZast, oRetI, oRetZ, oRetV, oCall, oRecv, oMax, List.map_cons, List.map_nil, List.getElem?_cons_zero, List.getElem?_cons_succ, List.set_cons_zero, List.set_cons_succ, List.length_cons, List.length_nil, List.cons_append, List.nil_append, List.append_nil, List.take_succ_cons, List.take_zero, List.drop_succ_cons, List.drop_zero, List.reverse_cons, List.reverse_nil, Option.toList, Value.category, List.sum_cons, List.sum_nil, zk_0, zk_1, zk_12, zk_20, zk_23, zk_27, zn_2, zn_3, zn_4, zn_5, zn_6, zn_7, zn_8, zn_9, zn_10, zn_11, zn_13, zn_14, zn_15, zn_16, zn_17, zn_18, zn_19, zn_21, zn_22, zn_24, zn_25, zn_26, zn_28, zn_29, zn_30, zn_31, zn_32, zn_33, zn_34, zn_35, zn_36, zn_37, zn_38, zn_39, zn_40, zn_41, zn_42, zn_43, zn_44, zn_45, zn_46, Nat.reduceAdd, Nat.reduceSub, Nat.reduceLeDiff, true_and, and_true]
    have e12 : ∀ j, j ≠ 14 → j ≠ 15 → j ≠ 16 → H 12 j = G 12 j := fun j j1 j2 j3 => by rw [h4 j j1 j3, zU_off _ _ _ _ j2]
    have ek : ∀ k, k ≠ 12 → k ≠ 26 → H k = G k := fun k k1 k2 => by rw [h3 k k1 k2, zU_ne _ _ _ _ k1]
    refine h H (fun k hk => ?_) (fun j hj => ?_) ⟨?_, ?_, ?_, fun x hx => ?_, 2 * F.cp i, by omega, ?_, ?_⟩ h5 ?_ h6 h7
    · rw [ek k (by omega) (by omega), G1.1 k (by omega), g1 k (by omega)]
    · rw [e12 j (by omega) (by omega) (by omega), G1.2.1 j (by omega), g2 j hj]
    · rw [e12 10 (by omega) (by omega) (by omega)]; exact G2
    · rw [e12 11 (by omega) (by omega) (by omega)]; exact G3
    · rw [e12 12 (by omega) (by omega) (by omega)]; exact G4
    · obtain ⟨r1, r2, r3⟩ := G7 x (Nat.zero_le _) hx
      rw [ek 15 (by omega) (by omega)]
      exact ⟨r1.up (fun k k1 k2 => by rw [ek k (by omega) (by omega)]) ⟨rfl, rfl, rfl, rfl, rfl, rfl, rfl⟩, r2, r3⟩
    · rw [e12 13 (by omega) (by omega) (by omega), G5, Nat.zero_add]
    · rw [Nat.zero_add] at G8
      unfold zSp
      rw [ek 18 (by omega) (by omega)]
      exact G8
    · rw [h4 15 (by omega) (by omega), zU_at]
  have loop : ∀ n j (gg : zM), j + n = 8 → (∀ k, (k < 12 ∨ 19 < k) → gg k = g k) → (∀ j, j < 10 → gg 12 j = g 12 j) → gg 12 10 = 0 → gg 12 11 = 0 → gg 12 12 = 8 → gg 12 13 = 0 → (∀ q, q < j → gg 19 q = nI q) → K 1 ([some (.ref 12), some (.ref 1), some (.int (nI i)), some (.int (nI j))], [], gg) := by
    intro n
    induction n with
    | zero =>
      intro j gg hj g1 g2 c1 c2 c3 c4 c5
      have : j = 8 := by omega
      subst this
      refine b1 _ ?_
      simp only [bb_P_becomeCopiesOf_1, oIload, oAload, oIstore, oInc, oConst, o2, oDup, oPop, oDupX1, oDupX2, oDup2, oIf, oIfN, oCmp, oCmpN, oSwitch, oGetR, oGetI, oPutI, oPutZ, oIald, oZald, oIast, oZast, oRetI, oRetZ, oRetV, oCall, oRecv, oMax, List.map_cons, List.map_nil, List.getElem?_cons_zero, List.getElem?_cons_succ, List.set_cons_zero, List.set_cons_succ, List.length_cons, List.length_nil, List.cons_append, List.nil_append, List.append_nil, List.take_succ_cons, List.take_zero, List.drop_succ_cons, List.drop_zero, List.reverse_cons, List.reverse_nil, Option.toList, Value.category, List.sum_cons, List.sum_nil, zk_0, zk_1, zk_12, zk_20, zk_23, zk_27, zn_2, zn_3, zn_4, zn_5, zn_6, zn_7, zn_8, zn_9, zn_10, zn_11, zn_13, zn_14, zn_15, zn_16, zn_17, zn_18, zn_19, zn_21, zn_22, zn_24, zn_25, zn_26, zn_28, zn_29, zn_30, zn_31, zn_32, zn_33, zn_34, zn_35, zn_36, zn_37, zn_38, zn_39, zn_40, zn_41, zn_42, zn_43, zn_44, zn_45, zn_46, Nat.reduceAdd, Nat.reduceSub, Nat.reduceLeDiff, true_and, and_true]
      refine ⟨fun _ => k2 _ _ g1 g2 ⟨c1, c2, c3, c4, c5⟩, fun e => absurd (by decide) e⟩
    | succ n ih =>
      intro j gg hj g1 g2 c1 c2 c3 c4 c5
      refine b1 _ ?_
      simp only [bb_P_becomeCopiesOf_1, oIload, oAload, oIstore, oInc, oConst, o2, oDup, oPop, oDupX1, oDupX2, oDup2, oIf, oIfN, oCmp, oCmpN, oSwitch, oGetR, oGetI, oPutI, oPutZ, oIald, oZald, oIast, oZast, oRetI, oRetZ, oRetV, oCall, oRecv, oMax, List.map_cons, List.map_nil, List.getElem?_cons_zero, List.getElem?_cons_succ, List.set_cons_zero, List.set_cons_succ, List.length_cons, List.length_nil, List.cons_append, List.nil_append, List.append_nil, List.take_succ_cons, List.take_zero, List.drop_succ_cons, List.drop_zero, List.reverse_cons, List.reverse_nil, Option.toList, Value.category, List.sum_cons, List.sum_nil, zk_0, zk_1, zk_12, zk_20, zk_23, zk_27, zn_2, zn_3, zn_4, zn_5, zn_6, zn_7, zn_8, zn_9, zn_10, zn_11, zn_13, zn_14, zn_15, zn_16, zn_17, zn_18, zn_19, zn_21, zn_22, zn_24, zn_25, zn_26, zn_28, zn_29, zn_30, zn_31, zn_32, zn_33, zn_34, zn_35, zn_36, zn_37, zn_38, zn_39, zn_40, zn_41, zn_42, zn_43, zn_44, zn_45, zn_46, Nat.reduceAdd, Nat.reduceSub, Nat.reduceLeDiff, true_and, and_true]
      refine ⟨fun e => absurd e (nI_ge (a := j) (b := 8) (by omega) (by omega)), fun _ => ⟨j, rfl, by omega, ?_⟩⟩
      rw [nI_1]
      have z12 : zU gg 19 j (nI j) 12 = gg 12 := zU_ne _ _ _ _ (by omega)
      refine ih (j + 1) _ (by omega) (fun k hk => by rw [zU_ne _ _ _ _ (by omega)]; exact g1 k hk) (fun q hq => by rw [z12]; exact g2 q hq) (by rw [z12]; exact c1) (by rw [z12]; exact c2) (by rw [z12]; exact c3) (by rw [z12]; exact c4) (fun q hq => ?_)
      by_cases e : q = j
      · subst e; rw [zU_at]
      · rw [zU_off _ _ _ _ e]; exact c5 q (by omega)
  refine b0 _ ?_
  simp only [bb_P_becomeCopiesOf_0, oIload, oAload, oIstore, oInc, oConst, o2, oDup, oPop, oDupX1, oDupX2, oDup2, oIf, oIfN, oCmp, oCmpN, oSwitch, oGetR, oGetI, oPutI, oPutZ, oIald, oZald, oIast, oZast, oRetI, oRetZ, oRetV, oCall, oRecv, oMax, List.map_cons, List.map_nil, List.getElem?_cons_zero, List.getElem?_cons_succ, List.set_cons_zero, List.set_cons_succ, List.length_cons, List.length_nil, List.cons_append, List.nil_append, List.append_nil, List.take_succ_cons, List.take_zero, List.drop_succ_cons, List.drop_zero, List.reverse_cons, List.reverse_nil, Option.toList, Value.category, List.sum_cons, List.sum_nil, zk_0, zk_1, zk_12, zk_20, zk_23, zk_27, zn_2, zn_3, zn_4, zn_5, zn_6, zn_7, zn_8, zn_9, zn_10, zn_11, zn_13, zn_14, zn_15, zn_16, zn_17, zn_18, zn_19, zn_21, zn_22, zn_24, zn_25, zn_26, zn_28, zn_29, zn_30, zn_31, zn_32, zn_33, zn_34, zn_35, zn_36, zn_37, zn_38, zn_39, zn_40, zn_41, zn_42, zn_43, zn_44, zn_45, zn_46, Nat.reduceAdd, Nat.reduceSub, Nat.reduceLeDiff, true_and, and_true]
  refine loop 8 0 _ (by omega) (fun k hk => ?_) (fun j hj => ?_) ?_ ?_ ?_ ?_ (fun q hq => absurd hq (by omega))
  · rw [zU_ne _ _ _ _ (by omega), zU_ne _ _ _ _ (by omega), zU_ne _ _ _ _ (by omega), zU_ne _ _ _ _ (by omega)]
  · rw [zU_off _ _ _ _ (by omega), zU_off _ _ _ _ (by omega), zU_off _ _ _ _ (by omega), zU_off _ _ _ _ (by omega)]
  · rw [zU_off _ _ _ _ (by omega), zU_off _ _ _ _ (by omega), zU_off _ _ _ _ (by omega), zU_at]
  · rw [zU_off _ _ _ _ (by omega), zU_off _ _ _ _ (by omega), zU_at]
  · rw [zU_at]
  · rw [zU_off _ _ _ _ (by omega), zU_at]
end SPB
/-! from the rows to the abstract program -/
theorem zBc_pr {F : yF} {g : zM} {S : yS} {ip : Nat → Bool} (hw : yFw F) (ok : yOk F S) (h : zBc g S) : zPr g (yPof S (fun j => !decide (g 26 j = 0)) (decide (g 12 14 = 0)) ip) := by
  obtain ⟨o1, o2, o3, o4, o5, o6⟩ := ok
  obtain ⟨b1, b2, b3, b4, -⟩ := h
  refine ⟨b1, o1, o2, b3, o4, o5, fun x hx => ?_, fun _ _ => rfl, rfl⟩
  obtain ⟨⟨r1, r2, r3, r4, r5, r6, r7, r8⟩, p⟩ := o6 x hx
  obtain ⟨⟨c1, c2, c3, c4, c5, c6⟩, c7, c8⟩ := b4 x hx
  obtain ⟨q1, q2, q3, q4, -⟩ := hw.2.2 _ r1
  show zPc1 g (yPof S _ _ ip) x
  unfold zPc1
  refine ⟨c1, by show S.kd x ≤ 10; rw [r2]; exact q1, fun e => c2 e, fun e => ?_, fun e => ?_, fun e => r5 e, c7, fun e => ⟨c8 e, ?_⟩, fun e => ⟨c3 e, r7 e⟩, c4, fun e => ⟨c5 e, r8 e⟩, c6⟩
  · show S.nm x < 60; have := r3 e; omega
  · show S.nm x < 4; rw [r4 e]; exact q4 (by rw [← r2]; exact e)
  · obtain ⟨p1, p2, p3, p4⟩ := p e
    exact ⟨p1, p2, p3, p4.elim (fun q => Or.inl q.2) (fun q => Or.inr q.2.2.1)⟩
theorem yEnc_inj {x x' : Nat} {b b' : Bool} (hx : x < 300) (hx' : x' < 300) (h : yEnc x b = yEnc x' b') : x = x' ∧ b = b' := by
  unfold yEnc at h
  have n1 := nI_not x hx
  have n2 := nI_not x' hx'
  cases b <;> cases b'
  · have h : nI x ^^^ (-1) = nI x' ^^^ (-1) := h
    have : (nI x ^^^ (-1)) ^^^ (-1) = (nI x' ^^^ (-1)) ^^^ (-1) := by rw [h]
    rw [n1.2, n2.2] at this
    exact ⟨nI_inj (by omega) (by omega) this, rfl⟩
  · have h : nI x ^^^ (-1) = nI x' := h
    exact absurd (h ▸ n1.1) (nI_pos (by omega))
  · have h : nI x = nI x' ^^^ (-1) := h
    exact absurd (h ▸ n2.1) (nI_pos (by omega))
  · exact ⟨nI_inj (by omega) (by omega) h, rfl⟩
theorem zBc_st {F : yF} {g : zM} {S : yS} {rg ip : Nat → Bool} {f0 : Bool} (ok : yOk F S) (h : zBc g S) : ∃ m st, zSt g (yPof S rg f0 ip) m st ∧ zCov (yPof S rg f0 ip) m st := by
  obtain ⟨o1, o2, -⟩ := ok
  obtain ⟨-, -, -, -, m, hm, b5, s1, s2⟩ := h
  have hc : ∀ j, ∃ q : Nat × Bool, j < m → q.1 < S.c ∧ g 18 j = yEnc q.1 q.2 := by
    intro j
    by_cases e : j < m
    · obtain ⟨x, b, -, e2, e3⟩ := s1 j (Nat.zero_le _) e
      exact ⟨(x, b), fun _ => ⟨e2, e3⟩⟩
    · exact ⟨(0, true), fun q => absurd q e⟩
  refine ⟨m, fun j => Classical.choose (hc j), ⟨b5, hm, fun j hj => ?_⟩, fun x hx b => ?_⟩
  · exact Classical.choose_spec (hc j) hj
  · obtain ⟨j, -, e2, e3⟩ := s2 x (Nat.zero_le _) hx b
    refine ⟨j, e2, ?_⟩
    obtain ⟨t1, t2⟩ := Classical.choose_spec (hc j) e2
    have hx : x < S.c := hx
    obtain ⟨v1, v2⟩ := yEnc_inj (by omega) (by omega) (t2.symm.trans e3)
    exact Prod.ext v1 v2
