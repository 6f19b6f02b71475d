/-! the copying pass -/
def zMC (g : zM) (S : yS) : Prop := g 27 10 = nI S.c ∧ g 27 11 = nI S.r ∧ g 27 21 = nI S.r ∧ g 27 22 = nI S.s
/-- a copy in the reference's rows -/
def zRq (F : yF) (G : zM) (S : yS) (x : Nat) : Prop :=
  G 35 x = nI (S.sn x) ∧ (S.kd x = 1 → G 41 x = nI (S.nm x)) ∧ (yHs (S.kd x) → G 40 (8 * x + F.nm (S.sn x)) = nI (S.nm x)) ∧ G 37 x = nI (S.sl x) ∧ ((3 ≤ S.kd x ∧ S.kd x ≤ 9) → G 38 x = nI (S.fi x)) ∧ ((3 ≤ S.kd x ∧ S.kd x ≤ 6) → G 39 x = nI (S.se x))
def zGp (F : yF) (g G : zM) (S S' : yS) (q : Nat) (y : Int32) (w : Nat) : Prop :=
  (∀ k, k ≠ 27 → k ≠ 34 → (k < 35 ∨ 41 < k) → G k = g k) ∧ (∀ j, j ≠ 8 → j ≠ 10 → j ≠ 11 → j ≠ 21 → j ≠ 22 → G 27 j = g 27 j) ∧ zMC G S' ∧ (∀ x, x < 4 * q → G 34 x = g 34 x) ∧
  (∀ x, x < S.c → G 35 x = g 35 x ∧ G 36 x = g 36 x ∧ G 37 x = g 37 x ∧ G 41 x = g 41 x) ∧ (∀ x, x < 8 * S.c → G 40 x = g 40 x) ∧
  (∀ x, x < S.c → ¬ (y = nI x ∧ w = 0) → G 38 x = g 38 x) ∧ (∀ x, x < S.c → ¬ (y = nI x ∧ w = 1) → G 39 x = g 39 x) ∧
  (S.c < S'.c → ∀ o, o < S.c → y = nI o → (w = 0 → G 38 o = nI S.c) ∧ (w = 1 → G 39 o = nI S.c)) ∧
  ∀ x, S.c ≤ x → x < S'.c → zRq F G S' x ∧ (x = S.c → G 36 x = y) ∧ (S.c < x → G 36 x = nI (S'.pa x))
theorem zGp.rf {F : yF} {g : zM} {S : yS} {q w : Nat} {y : Int32} (h : zMC g S) : zGp F g g S S q y w :=
  ⟨fun _ _ _ _ => rfl, fun _ _ _ _ _ _ => rfl, h, fun _ _ => rfl, fun _ _ => ⟨rfl, rfl, rfl, rfl⟩, fun _ _ => rfl, fun _ _ _ => rfl, fun _ _ _ => rfl, fun h => by omega, fun x h1 h2 => by omega⟩
theorem zRq.up {F : yF} {G H : zM} {S S' : yS} {x : Nat} (h : zRq F G S x) (h5 : H 35 x = G 35 x) (h7 : H 37 x = G 37 x) (h1 : H 41 x = G 41 x) (h0 : ∀ j, j < 8 → H 40 (8 * x + j) = G 40 (8 * x + j)) (h8 : H 38 x = G 38 x) (h9 : H 39 x = G 39 x) (hn : yHs (S.kd x) → F.nm (S.sn x) < 8)
    (hS : S'.kd x = S.kd x ∧ S'.nm x = S.nm x ∧ S'.pa x = S.pa x ∧ S'.fi x = S.fi x ∧ S'.se x = S.se x ∧ S'.sn x = S.sn x ∧ S'.sl x = S.sl x) : zRq F H S' x := by
  obtain ⟨a1, a2, a3, a4, a5, a6, a7⟩ := hS
  obtain ⟨r1, r2, r3, r4, r5, r6⟩ := h
  unfold zRq
  rw [a1, a2, a4, a5, a6, a7, h5, h7, h1, h8, h9]
  exact ⟨r1, r2, fun e => by rw [h0 _ (hn e)]; exact r3 e, r4, r5, r6⟩
set_option maxHeartbeats 8000000 in
set_option maxRecDepth 20000 in
/-- a statement's own row, then its parts' -/
theorem zGp_node {F : yF} (hw : yFw F) {i o w q q1 : Nat} {e : Nat → Nat} {y : Int32} {S S1 S2 S3 : yS} {gg g7 g8 G H J : zM} (hi : i < F.n) (hS1 : S1 = yNew F i o w e S) (hcf : S2.c = S1.c + F.cp (F.fi i)) (hcs : S3.c = S2.c + F.cp (F.se i)) (l2 : yLow S1 S2) (l3 : yLow S2 S3)
    (hrw : ∀ x, S1.c ≤ x → x < S2.c → yHs (S2.kd x) → F.nm (S2.sn x) < 8) (hpa : S1.c < S2.c → S2.pa S1.c = S.c) (hpb : S2.c < S3.c → S3.pa S2.c = S.c) (hq1 : q ≤ q1) (hSr : gg 27 21 = nI S.r)
    (hg7 : g7 = zU gg 27 8 (nI q))
    (m1 : ∀ k, k ≠ 27 → (k < 35 ∨ 41 < k) → g8 k = g7 k) (m2 : ∀ j, j ≠ 21 → j ≠ 22 → g8 27 j = g7 27 j) (m5 : zCr g7 g8 S.c i y w) (m6 : ∀ j, j < 8 → g8 40 (8 * S.c + j) = nI (yEnv F i e S j)) (m7 : ∀ x, x < 8 * S.c → g8 40 x = g7 40 x) (m8 : F.kd i = 1 → g8 41 S.c = nI S.r) (m9 : ∀ x, x ≠ S.c → g8 41 x = g7 41 x)
    (n1 : ∀ k, k ≠ 27 → k ≠ 34 → G k = g8 k) (n2 : ∀ j, j ≠ 8 → j ≠ 10 → j ≠ 11 → G 27 j = g8 27 j) (n6 : ∀ x, x < 4 * q → G 34 x = g8 34 x)
    (hH : zGp F G H S1 S2 q1 (nI S.c) 0) (hJ : zGp F H J S2 S3 q (nI S.c) 1) (hc3 : S3.c ≤ 300) : zGp F gg J S S3 q y w := by
  obtain ⟨A1, A2, A3, A4, A5, A6, A7, A8, A9, A10⟩ := hH
  obtain ⟨B1, B2, B3, B4, B5, B6, B7, B8, B9, B10⟩ := hJ
  obtain ⟨q1', q2', q3', q4', q5', q6', q7', q8', q9', -⟩ := hw.2.2 i hi
  have z1 : S1.c = S.c + 1 := by rw [hS1]; rfl
  have y1 : S1.kd S.c = F.kd i := by rw [hS1]; exact yPut_at _ _ _
  have y2 : S1.nm S.c = yNum F i e S := by rw [hS1]; exact yPut_at _ _ _
  have y4 : S1.fi S.c = S.c + 1 := by rw [hS1]; exact yPut_at _ _ _
  have y5 : S1.se S.c = S.c + 1 + F.cp (F.fi i) := by rw [hS1]; exact yPut_at _ _ _
  have y6 : S1.sn S.c = i := by rw [hS1]; exact yPut_at _ _ _
  have y7 : S1.sl S.c = w := by rw [hS1]; exact yPut_at _ _ _
  have e7 : ∀ k, k ≠ 27 → g7 k = gg k := fun k hk => by rw [hg7, zU_ne _ _ _ _ hk]
  have e7j : ∀ j, j ≠ 8 → g7 27 j = gg 27 j := fun j hj => by rw [hg7, zU_off _ _ _ _ hj]
  have ne38 : ∀ x, ¬ (nI S.c = nI x ∧ (1 : Nat) = 0) := fun x q => by omega
  have ne39 : ∀ x, ¬ (nI S.c = nI x ∧ (0 : Nat) = 1) := fun x q => by omega
  have nec : ∀ x, x < 2 ^ 31 → x ≠ S.c → ∀ p : Prop, ¬ (nI S.c = nI x ∧ p) := fun x h1 h2 p q => h2 (nI_inj (by omega) h1 q.1).symm
  obtain ⟨c1, c2, c3, c4, c5, c6, c7, c8⟩ := m5
  have l13 : yLow S1 S3 := l2.tr l3 (by omega)
  -- a low row of G
  have G35 : G 35 = g8 35 := n1 35 (by omega) (by omega)
  have G36 : G 36 = g8 36 := n1 36 (by omega) (by omega)
  have G37 : G 37 = g8 37 := n1 37 (by omega) (by omega)
  have G38 : G 38 = g8 38 := n1 38 (by omega) (by omega)
  have G39 : G 39 = g8 39 := n1 39 (by omega) (by omega)
  have G40 : G 40 = g8 40 := n1 40 (by omega) (by omega)
  have G41 : G 41 = g8 41 := n1 41 (by omega) (by omega)
  refine ⟨fun k h1 h2 h3 => ?_, fun j h1 h2 h3 h4 h5 => ?_, B3, fun x hx => ?_, fun x hx => ?_, fun x hx => ?_, fun x hx hn => ?_, fun x hx hn => ?_, fun _ o' ho' ey => ⟨fun ew => ?_, fun ew => ?_⟩, fun x hx hx2 => ?_⟩
  · rw [B1 k h1 h2 h3, A1 k h1 h2 h3, n1 k h1 h2, m1 k h1 h3, e7 k h1]
  · rw [B2 j h1 h2 h3 h4 h5, A2 j h1 h2 h3 h4 h5, n2 j h1 h2 h3, m2 j h4 h5, e7j j h1]
  · rw [B4 x hx, A4 x (by omega), n6 x hx, m1 34 (by omega) (by omega), e7 34 (by omega)]
  · obtain ⟨b1, b2, b3, b4⟩ := B5 x (by omega)
    obtain ⟨a1, a2, a3, a4⟩ := A5 x (by omega)
    obtain ⟨d1, d2, d3⟩ := c4 x (by omega)
    rw [b1, b2, b3, b4, a1, a2, a3, a4, G35, G36, G37, G41, d1, d2, d3, m9 x (by omega), e7 35 (by omega), e7 36 (by omega), e7 37 (by omega), e7 41 (by omega)]
    exact ⟨rfl, rfl, rfl, rfl⟩
  · rw [B6 x (by omega), A6 x (by omega), G40, m7 x hx, e7 40 (by omega)]
  · rw [B7 x (by omega) (ne38 x), A7 x (by omega) (nec x (by omega) (by omega) _), G38, c6 x hn, e7 38 (by omega)]
  · rw [B8 x (by omega) (nec x (by omega) (by omega) _), A8 x (by omega) (ne39 x), G39, c8 x hn, e7 39 (by omega)]
  · rw [B7 o' (by omega) (ne38 o'), A7 o' (by omega) (nec o' (by omega) (by omega) _), G38]
    exact c5 o' ey ho' ew
  · rw [B8 o' (by omega) (nec o' (by omega) (by omega) _), A8 o' (by omega) (ne39 o'), G39]
    exact c7 o' ey ho' ew
  · rcases Nat.lt_or_ge S.c x with hlt | hge
    · rcases Nat.lt_or_ge x S2.c with h2 | h2
      · obtain ⟨r1, r2, r3⟩ := A10 x (by omega) h2
        obtain ⟨b1, b2, b3, b4⟩ := B5 x h2
        refine ⟨r1.up b1 b3 b4 (fun j hj => B6 _ (by omega)) (B7 x h2 (ne38 x)) (B8 x h2 (nec x (by omega) (by omega) _)) (hrw x (by omega) h2) (l3 x h2), fun q => by omega, fun _ => ?_⟩
        rw [b2, (l3 x h2).2.2.1]
        rcases Nat.lt_or_ge S1.c x with h3 | h3
        · exact r3 h3
        · obtain rfl : x = S1.c := by omega
          rw [r2 rfl, hpa h2]
      · obtain ⟨r1, r2, r3⟩ := B10 x h2 hx2
        refine ⟨r1, fun q => by omega, fun _ => ?_⟩
        rcases Nat.lt_or_ge S2.c x with h3 | h3
        · exact r3 h3
        · obtain rfl : x = S2.c := by omega
          rw [r2 rfl, hpb hx2]
    · obtain rfl : x = S.c := by omega
      obtain ⟨b1, b2, b3, b4⟩ := B5 S.c (by omega)
      obtain ⟨a1, a2, a3, a4⟩ := A5 S.c (by omega)
      obtain ⟨s1, s2, s3, s4, s5, s6, s7⟩ := l13 S.c (by omega)
      refine ⟨?_, fun _ => by rw [b2, a2, G36, c2], fun h => by omega⟩
      unfold zRq
      rw [s1, s2, s4, s5, s6, s7, y1, y2, y4, y5, y6, y7, b1, a1, b3, a3, b4, a4, G35, G37, G41]
      refine ⟨c1, fun e1 => ?_, fun eh => ?_, c3, fun e3 => ?_, fun e3 => ?_⟩
      · rw [m8 e1]; unfold yNum; rw [if_pos e1]
      · have hz := q3' (by unfold yHs at eh; omega)
        rw [B6 _ (by omega), A6 _ (by omega), G40, m6 _ hz]
        unfold yNum
        rw [if_neg (by unfold yHs at eh; omega), if_neg (by unfold yHs at eh; omega)]
      · have := hw.cp1 (show F.fi i < F.n by have := q5' e3; omega)
        rw [B7 S.c (by omega) (ne38 S.c), ((A9 (by omega) S.c (by omega) rfl).1 rfl), z1]
      · have := hw.cp1 (show F.se i < F.n by have := q7' e3; omega)
        rw [((B9 (by omega) S.c (by omega) rfl).2 rfl), hcf, z1]
