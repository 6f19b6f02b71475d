/-! the copies of a statement, in the order in which both sides make them -/
abbrev yS : Type := (Nat × Nat × Nat) × (Nat → Nat) × (Nat → Nat) × (Nat → Nat) × (Nat → Nat) × (Nat → Nat) × (Nat → Nat) × (Nat → Nat)
abbrev yS.c (S : yS) : Nat := S.1.1
abbrev yS.s (S : yS) : Nat := S.1.2.1
abbrev yS.r (S : yS) : Nat := S.1.2.2
abbrev yS.kd (S : yS) : Nat → Nat := S.2.1
abbrev yS.nm (S : yS) : Nat → Nat := S.2.2.1
abbrev yS.pa (S : yS) : Nat → Nat := S.2.2.2.1
abbrev yS.fi (S : yS) : Nat → Nat := S.2.2.2.2.1
abbrev yS.se (S : yS) : Nat → Nat := S.2.2.2.2.2.1
abbrev yS.sn (S : yS) : Nat → Nat := S.2.2.2.2.2.2.1
abbrev yS.sl (S : yS) : Nat → Nat := S.2.2.2.2.2.2.2
def yEnv (F : yF) (i : Nat) (e : Nat → Nat) (S : yS) : Nat → Nat := if F.kd i = 8 then yPut e (F.nm i) S.s else e
def yNum (F : yF) (i : Nat) (e : Nat → Nat) (S : yS) : Nat := if F.kd i = 1 then S.r else if F.kd i = 10 then F.nm i else yEnv F i e S (F.nm i)
def yNew (F : yF) (i o w : Nat) (e : Nat → Nat) (S : yS) : yS :=
  ((S.c + 1, S.s + (if F.kd i = 8 then 1 else 0), S.r + (if F.kd i = 1 then 1 else 0)), yPut S.kd S.c (F.kd i), yPut S.nm S.c (yNum F i e S), yPut S.pa S.c o, yPut S.fi S.c (S.c + 1), yPut S.se S.c (S.c + 1 + F.cp (F.fi i)), yPut S.sn S.c i, yPut S.sl S.c w)
def yBld (F : yF) : Nat → Nat → Nat → Nat → (Nat → Nat) → yS → yS
  | 0, _, _, _, _, S => S
  | N + 1, i, o, w, e, S => if i < 60 then yBld F N (F.se i) S.c 1 (yEnv F i e S) (yBld F N (F.fi i) S.c 0 (yEnv F i e S) (yNew F i o w e S)) else S
theorem yBld_60 (F : yF) (N o w : Nat) (e : Nat → Nat) (S : yS) : yBld F N 60 o w e S = S := by
  cases N with
  | zero => rfl
  | succ N => exact if_neg (by omega)
theorem yBld_s (F : yF) {N i o w : Nat} {e : Nat → Nat} {S : yS} (hi : i < 60) : yBld F (N + 1) i o w e S = yBld F N (F.se i) S.c 1 (yEnv F i e S) (yBld F N (F.fi i) S.c 0 (yEnv F i e S) (yNew F i o w e S)) := if_pos hi
/-- parts of a statement -/
theorem yFw.part {F : yF} (h : yFw F) {i : Nat} (hi : i < F.n) : (F.fi i < F.n ∨ F.fi i = 60) ∧ (F.se i < F.n ∨ F.se i = 60) := by
  obtain ⟨-, -, -, -, q1, q2, q3, q4, -⟩ := h.2.2 i hi
  constructor
  · by_cases e : 3 ≤ F.kd i ∧ F.kd i ≤ 9
    · exact Or.inl (Nat.lt_trans (q1 e) hi)
    · exact Or.inr (q2 e)
  · by_cases e : 3 ≤ F.kd i ∧ F.kd i ≤ 6
    · exact Or.inl (Nat.lt_trans (q3 e) hi)
    · exact Or.inr (q4 e)
theorem yFw.deep {F : yF} (h : yFw F) {i N : Nat} (hi : i < F.n) (hN : F.dp i ≤ N + 1) : F.dp (F.fi i) ≤ N ∧ F.dp (F.se i) ≤ N := by
  obtain ⟨-, -, -, -, -, -, -, -, -, -, q, -⟩ := h.2.2 i hi
  unfold nMax at q
  split at q <;> omega
theorem yFw.cps {F : yF} (h : yFw F) {i : Nat} (hi : i < F.n) : F.cp i = 1 + F.cp (F.fi i) + F.cp (F.se i) := by
  obtain ⟨-, -, -, -, -, -, -, -, -, -, -, -, q, -⟩ := h.2.2 i hi
  exact q
theorem yFw.pss {F : yF} (h : yFw F) {i : Nat} (hi : i < F.n) : F.ps i = (if F.kd i = 1 then 1 else 0) + F.ps (F.fi i) + F.ps (F.se i) := by
  obtain ⟨-, -, -, -, -, -, -, -, -, -, -, -, -, -, q, -⟩ := h.2.2 i hi
  exact q
theorem yFw.cp1 {F : yF} (h : yFw F) {i : Nat} (hi : i < F.n) : 1 ≤ F.cp i := by rw [h.cps hi]; omega
theorem yFw.dp1 {F : yF} (h : yFw F) {i : Nat} (hi : i < F.n) : 1 ≤ F.dp i := by
  obtain ⟨-, -, -, -, -, -, -, -, -, -, q, -⟩ := h.2.2 i hi
  omega
/-- the same rows below a copy -/
def yLow (S S' : yS) : Prop := ∀ x, x < S.c → S'.kd x = S.kd x ∧ S'.nm x = S.nm x ∧ S'.pa x = S.pa x ∧ S'.fi x = S.fi x ∧ S'.se x = S.se x ∧ S'.sn x = S.sn x ∧ S'.sl x = S.sl x
theorem yNew_low (F : yF) (i o w : Nat) (e : Nat → Nat) (S : yS) : yLow S (yNew F i o w e S) := by
  intro x hx
  have hne : x ≠ S.c := by omega
  simp only [yNew, yS.kd, yS.nm, yS.pa, yS.fi, yS.se, yS.sn, yS.sl]
  exact ⟨yPut_ne _ _ hne, yPut_ne _ _ hne, yPut_ne _ _ hne, yPut_ne _ _ hne, yPut_ne _ _ hne, yPut_ne _ _ hne, yPut_ne _ _ hne⟩
theorem yLow.tr {A B C : yS} (h1 : yLow A B) (h2 : yLow B C) (hc : A.c ≤ B.c) : yLow A C := by
  intro x hx
  obtain ⟨a1, a2, a3, a4, a5, a6, a7⟩ := h1 x hx
  obtain ⟨b1, b2, b3, b4, b5, b6, b7⟩ := h2 x (by omega)
  exact ⟨b1.trans a1, b2.trans a2, b3.trans a3, b4.trans a4, b5.trans a5, b6.trans a6, b7.trans a7⟩
theorem yBld_cnt {F : yF} (hw : yFw F) : ∀ N i o w e S, (i < F.n ∨ i = 60) → F.dp i ≤ N → (yBld F N i o w e S).c = S.c + F.cp i ∧ (yBld F N i o w e S).r = S.r + F.ps i ∧ S.s ≤ (yBld F N i o w e S).s ∧ (yBld F N i o w e S).s ≤ S.s + F.cp i ∧ yLow S (yBld F N i o w e S) := by
  obtain ⟨w1, ⟨w2, w3, w4, w5, w6, w7⟩, w8⟩ := id hw
  intro N
  have h60 : ∀ N o w e S, (yBld F N 60 o w e S).c = S.c + F.cp 60 ∧ (yBld F N 60 o w e S).r = S.r + F.ps 60 ∧ S.s ≤ (yBld F N 60 o w e S).s ∧ (yBld F N 60 o w e S).s ≤ S.s + F.cp 60 ∧ yLow S (yBld F N 60 o w e S) := by
    intro N o w e S
    rw [yBld_60, w4, w5]
    exact ⟨rfl, rfl, Nat.le_refl _, Nat.le_refl _, fun _ _ => ⟨rfl, rfl, rfl, rfl, rfl, rfl, rfl⟩⟩
  induction N with
  | zero =>
    rintro i o w e S (hi | rfl) hd
    · have := hw.dp1 hi; omega
    · exact h60 _ _ _ _ _
  | succ N ih =>
    rintro i o w e S (hi | rfl) hd
    · have hi6 : i < 60 := by omega
      obtain ⟨p1, p2⟩ := hw.part hi
      obtain ⟨d1, d2⟩ := hw.deep hi hd
      rw [yBld_s F hi6, hw.cps hi, hw.pss hi]
      obtain ⟨a1, a2, a3, a4, a5⟩ := ih (F.fi i) S.c 0 (yEnv F i e S) (yNew F i o w e S) p1 d1
      generalize yBld F N (F.fi i) S.c 0 (yEnv F i e S) (yNew F i o w e S) = S2 at *
      obtain ⟨b1, b2, b3, b4, b5⟩ := ih (F.se i) S.c 1 (yEnv F i e S) S2 p2 d2
      have c1 : (yNew F i o w e S).c = S.c + 1 := rfl
      have c2 : (yNew F i o w e S).r = S.r + (if F.kd i = 1 then 1 else 0) := rfl
      have c3 : (yNew F i o w e S).s = S.s + (if F.kd i = 8 then 1 else 0) := rfl
      rw [c1] at a1
      rw [c2] at a2
      rw [c3] at a3 a4
      refine ⟨by omega, by omega, by omega, ?_, ((yNew_low F i o w e S).tr a5 (by omega)).tr b5 (by omega)⟩
      split at a4 <;> omega
    · exact h60 _ _ _ _ _
/-- what is asked of a copy -/
def yRw (F : yF) (S : yS) (x : Nat) : Prop :=
  S.sn x < F.n ∧ S.kd x = F.kd (S.sn x) ∧ (S.kd x = 1 → S.nm x < S.r) ∧ (S.kd x = 10 → S.nm x = F.nm (S.sn x)) ∧ (yHs (S.kd x) → S.nm x < S.s) ∧ (S.kd x = 2 → 3 ≤ S.nm x) ∧ ((3 ≤ S.kd x ∧ S.kd x ≤ 9) → S.fi x < S.c) ∧ ((3 ≤ S.kd x ∧ S.kd x ≤ 6) → S.se x < S.c)
def yPa (S : yS) (x : Nat) : Prop := S.pa x < x ∧ 3 ≤ S.kd (S.pa x) ∧ S.kd (S.pa x) ≤ 9 ∧ ((S.sl x = 0 ∧ S.fi (S.pa x) = x) ∨ (S.sl x = 1 ∧ ¬ S.fi (S.pa x) = x ∧ S.se (S.pa x) = x ∧ S.kd (S.pa x) ≤ 6))
theorem yRw.up {F : yF} {S S' : yS} {x : Nat} (h : yRw F S x) (hx : x < S.c) (hl : yLow S S') (hc : S.c ≤ S'.c) (hs : S.s ≤ S'.s) (hr : S.r ≤ S'.r) : yRw F S' x := by
  obtain ⟨a1, a2, a3, a4, a5, a6, a7⟩ := hl x hx
  obtain ⟨h1, h2, h3, h4, h5, h6, h7, h8⟩ := h
  unfold yRw
  rw [a1, a2, a4, a5, a6]
  exact ⟨h1, h2, fun e => Nat.lt_of_lt_of_le (h3 e) hr, h4, fun e => Nat.lt_of_lt_of_le (h5 e) hs, h6, fun e => Nat.lt_of_lt_of_le (h7 e) hc, fun e => Nat.lt_of_lt_of_le (h8 e) hc⟩
theorem yPa.up {S S' : yS} {x : Nat} (h : yPa S x) (hx : x < S.c) (hl : yLow S S') : yPa S' x := by
  obtain ⟨a1, a2, a3, a4, a5, a6, a7⟩ := hl x hx
  obtain ⟨h1, h2⟩ := h
  obtain ⟨b1, b2, b3, b4, b5, b6, b7⟩ := hl (S.pa x) (by omega)
  unfold yPa
  rw [a3, a7, b1, b4, b5]
  exact ⟨h1, h2⟩
/-- the names of signals -/
def yEo (e : Nat → Nat) (s : Nat) : Prop := 8 ≤ s ∧ ∀ j, j < 8 → e j < s ∧ (3 ≤ j → 3 ≤ e j)
theorem yEo.env {F : yF} {i : Nat} {e : Nat → Nat} {S : yS} (h : yEo e S.s) : yEo (yEnv F i e S) (S.s + (if F.kd i = 8 then 1 else 0)) := by
  unfold yEnv
  obtain ⟨h1, h2⟩ := h
  split
  · refine ⟨by omega, fun j hj => ?_⟩
    by_cases ej : j = F.nm i
    · subst ej; rw [yPut_at]; omega
    · rw [yPut_ne _ _ ej]; have := h2 j hj; omega
  · exact ⟨h1, h2⟩
theorem yBld_wf {F : yF} (hw : yFw F) : ∀ N i o w e S, (i < F.n ∨ i = 60) → F.dp i ≤ N → yEo e S.s → ∀ x, S.c ≤ x → x < (yBld F N i o w e S).c → yRw F (yBld F N i o w e S) x ∧ (x = S.c → (yBld F N i o w e S).pa x = o ∧ (yBld F N i o w e S).sl x = w ∧ (yBld F N i o w e S).sn x = i) ∧ (S.c < x → yPa (yBld F N i o w e S) x) := by
  obtain ⟨w1, ⟨w2, w3, w4, w5, w6, w7⟩, w8⟩ := id hw
  intro N
  induction N with
  | zero =>
    rintro i o w e S (hi | rfl) hd he x hx hx2
    · have := hw.dp1 hi; omega
    · rw [yBld_60] at hx2; omega
  | succ N ih =>
    rintro i o w e S (hi | rfl) hd he x hx hx2
    · have hi6 : i < 60 := by omega
      obtain ⟨p1, p2⟩ := hw.part hi
      obtain ⟨d1, d2⟩ := hw.deep hi hd
      rw [yBld_s F hi6] at hx2 ⊢
      have he1 := he.env (F := F) (i := i)
      have l1 := yNew_low F i o w e S
      have z1 : (yNew F i o w e S).c = S.c + 1 := rfl
      have z2 : (yNew F i o w e S).s = S.s + (if F.kd i = 8 then 1 else 0) := rfl
      have z3 : (yNew F i o w e S).r = S.r + (if F.kd i = 1 then 1 else 0) := rfl
      have y1 : (yNew F i o w e S).kd S.c = F.kd i := yPut_at _ _ _
      have y2 : (yNew F i o w e S).nm S.c = yNum F i e S := yPut_at _ _ _
      have y3 : (yNew F i o w e S).pa S.c = o := yPut_at _ _ _
      have y4 : (yNew F i o w e S).fi S.c = S.c + 1 := yPut_at _ _ _
      have y5 : (yNew F i o w e S).se S.c = S.c + 1 + F.cp (F.fi i) := yPut_at _ _ _
      have y6 : (yNew F i o w e S).sn S.c = i := yPut_at _ _ _
      have y7 : (yNew F i o w e S).sl S.c = w := yPut_at _ _ _
      generalize yNew F i o w e S = S1 at *
      have ca := yBld_cnt hw N (F.fi i) S.c 0 (yEnv F i e S) S1 p1 d1
      have ia := ih (F.fi i) S.c 0 (yEnv F i e S) S1 p1 d1 (z2 ▸ he1)
      generalize yBld F N (F.fi i) S.c 0 (yEnv F i e S) S1 = S2 at *
      obtain ⟨a1, a2, a3, a4, a5⟩ := ca
      have he2 : yEo (yEnv F i e S) S2.s := ⟨by have := he1.1; omega, fun j hj => by have := he1.2 j hj; omega⟩
      have cb := yBld_cnt hw N (F.se i) S.c 1 (yEnv F i e S) S2 p2 d2
      have ib := ih (F.se i) S.c 1 (yEnv F i e S) S2 p2 d2 he2
      generalize yBld F N (F.se i) S.c 1 (yEnv F i e S) S2 = S3 at *
      obtain ⟨b1, b2, b3, b4, b5⟩ := cb
      have l13 : yLow S1 S3 := a5.tr b5 (by omega)
      have l0 := l13 S.c (by omega)
      obtain ⟨m1, m2, m3, m4, m5, m6, m7⟩ := l0
      rw [y1] at m1
      rw [y2] at m2
      rw [y3] at m3
      rw [y4] at m4
      rw [y5] at m5
      rw [y6] at m6
      rw [y7] at m7
      obtain ⟨q1, q2, q3, q4, q5, q6, q7, q8, q9, -⟩ := w8 i hi
      have nb : yNb (F.kd i) → (F.kd i = 1 ∨ F.kd i = 10 ∨ yNum F i e S < S.s + (if F.kd i = 8 then 1 else 0)) := by
        intro hb
        by_cases e1 : F.kd i = 1
        · exact Or.inl e1
        · by_cases e2 : F.kd i = 10
          · exact Or.inr (Or.inl e2)
          · right; right
            unfold yNum; rw [if_neg e1, if_neg e2]
            exact (he1.2 (F.nm i) (q3 (by unfold yNb at hb; omega))).1
      rcases Nat.lt_or_ge S.c x with hlt | hge
      · refine ⟨?_, fun e => by omega, fun _ => ?_⟩
        · rcases Nat.lt_or_ge x S2.c with h2 | h2
          · exact (ia x (by omega) h2).1.up h2 b5 (by omega) (by omega) (by omega)
          · exact (ib x h2 hx2).1
        · rcases Nat.lt_or_ge x S2.c with h2 | h2
          · obtain ⟨-, r2, r3⟩ := ia x (by omega) h2
            rcases Nat.lt_or_ge S1.c x with h3 | h3
            · exact (r3 h3).up h2 b5
            · obtain rfl : x = S1.c := by omega
              obtain ⟨t1, t2, -⟩ := r2 rfl
              obtain ⟨n1, n2, n3, n4, n5, n6, n7⟩ := b5 S1.c h2
              have hk : 3 ≤ F.kd i ∧ F.kd i ≤ 9 := Classical.byContradiction fun hn => by
                rw [q6 hn, w4] at a1; omega
              refine ⟨by rw [n3, t1]; omega, ?_, ?_, Or.inl ⟨by rw [n7, t2], ?_⟩⟩
              · rw [n3, t1, m1]; exact hk.1
              · rw [n3, t1, m1]; exact hk.2
              · rw [n3, t1, m4, z1]
          · obtain ⟨-, r2, r3⟩ := ib x h2 hx2
            rcases Nat.lt_or_ge S2.c x with h3 | h3
            · exact r3 h3
            · obtain rfl : x = S2.c := by omega
              obtain ⟨t1, t2, -⟩ := r2 rfl
              have hk : 3 ≤ F.kd i ∧ F.kd i ≤ 6 := Classical.byContradiction fun hn => by
                rw [q8 hn, w4] at b1; omega
              have hf := hw.cp1 (show F.fi i < F.n by have := q5 (by omega); omega)
              refine ⟨by rw [t1]; omega, ?_, ?_, Or.inr ⟨t2, ?_, ?_, ?_⟩⟩
              · rw [t1, m1]; exact hk.1
              · rw [t1, m1]; omega
              · rw [t1, m4]; omega
              · rw [t1, m5]; omega
              · rw [t1, m1]; exact hk.2
      · obtain rfl : x = S.c := by omega
        refine ⟨?_, fun _ => ⟨m3, m7, m6⟩, fun h => by omega⟩
        unfold yRw
        rw [m1, m2, m4, m5, m6]
        refine ⟨hi, rfl, fun e1 => ?_, fun e1 => ?_, fun e1 => ?_, fun e1 => ?_, fun e1 => ?_, fun e1 => ?_⟩
        · unfold yNum; rw [if_pos e1]; rw [if_pos e1] at z3; omega
        · unfold yNum; rw [if_neg (by omega), if_pos e1]
        · have := nb (by unfold yNb; unfold yHs at e1; omega)
          unfold yHs at e1
          have z2' := z2
          omega
        · unfold yNum; rw [if_neg (by omega), if_neg (by omega)]
          exact (he1.2 (F.nm i) (q3 (Or.inl e1))).2 (q2 (Or.inl e1))
        · have := hw.cp1 (show F.fi i < F.n by have := q5 e1; omega)
          omega
        · have := hw.cp1 (show F.se i < F.n by have := q7 e1; omega)
          omega
    · rw [yBld_60] at hx2; omega
