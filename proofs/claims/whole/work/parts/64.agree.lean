/-! class and reference: one relation of their memories, and what it gives behind a solve -/
section AGR
theorem eEq_rg {F : yF} {S : yS} (ok : yOk F S) {rg rg' : Nat → Bool} {f0 : Bool} {ip : Nat → Bool} (h : ∀ j, j < S.r → rg j = rg' j) : eEq (yPof S rg f0 ip) = eEq (yPof S rg' f0 ip) := by
  funext v r o
  obtain ⟨c, j⟩ := v
  cases c with
  | zero => rfl
  | succ c =>
    by_cases hc : c < S.c
    · have hr : S.kd c = 1 → rg (S.nm c) = rg' (S.nm c) := fun e => h _ ((ok.2.2.2.2.2 c hc).1.2.2.1 e)
      have e1 : eSel (yPof S rg f0 ip) r c = eSel (yPof S rg' f0 ip) r c := by
        show (if S.kd c = 1 then rg (S.nm c) else _) = (if S.kd c = 1 then rg' (S.nm c) else _)
        by_cases hk : S.kd c = 1
        · rw [if_pos hk, if_pos hk]; exact hr hk
        · rw [if_neg hk, if_neg hk]; rfl
      have e2 : ∀ i, eK (yPof S rg f0 ip) r o c i = eK (yPof S rg' f0 ip) r o c i := by
        intro i
        show (if S.kd c = 0 ∨ S.kd c = 2 then _ else if S.kd c = 1 then (if i = 0 then rg (S.nm c) && yw r c 1 else _) else _) = (if S.kd c = 0 ∨ S.kd c = 2 then _ else if S.kd c = 1 then (if i = 0 then rg' (S.nm c) && yw r c 1 else _) else _)
        by_cases hk : S.kd c = 1
        · rw [hr hk]; rfl
        · rw [if_neg hk, if_neg hk]; rfl
      show (if c < S.c then (if j = 0 then _ else if j = 1 then _ else if j = 2 then _ else if j = 3 then _ else if j = 4 then eSel (yPof S rg f0 ip) r c else if j < 11 then eK (yPof S rg f0 ip) r o c (j - 5) else false) else false) = _
      rw [e1, e2]; rfl
    · show (if c < S.c then _ else false) = (if c < S.c then _ else false)
      rw [if_neg hc, if_neg hc]
theorem fR_eq {S : yS} {rg rg' : Nat → Bool} {f0 : Bool} {ip : Nat → Bool} {Y : yR} {i : Nat} {a b : Nat → Bool} (h : a i = b i) : ∀ n, fR (yPof S rg f0 ip) Y a n i = fR (yPof S rg' f0 ip) Y b n i
  | 0 => h
  | n + 1 => by
    have ih := fR_eq (S := S) (rg := rg) (rg' := rg') (f0 := f0) (ip := ip) (Y := Y) h n
    show (if S.kd n = 1 then (fun i => if i = S.nm n then (yw Y n 0 || (yw Y n 2 && fR (yPof S rg f0 ip) Y a n i)) && !yw Y n 3 else fR (yPof S rg f0 ip) Y a n i) else fR (yPof S rg f0 ip) Y a n) i = (if S.kd n = 1 then (fun i => if i = S.nm n then (yw Y n 0 || (yw Y n 2 && fR (yPof S rg' f0 ip) Y b n i)) && !yw Y n 3 else fR (yPof S rg' f0 ip) Y b n i) else fR (yPof S rg' f0 ip) Y b n) i
    by_cases hk : S.kd n = 1
    · rw [if_pos hk, if_pos hk]
      show (if i = S.nm n then _ else _) = (if i = S.nm n then _ else _)
      rw [ih]
    · rw [if_neg hk, if_neg hk]; exact ih
theorem cntB_congr {f f' : Nat → Bool} : ∀ k, (∀ i, i < k → f i = f' i) → cntB f k = cntB f' k
  | 0, _ => rfl
  | k + 1, h => by
    have ih := cntB_congr k (fun i hi => h i (by omega))
    simp only [cntB]; rw [ih, h k (by omega)]
theorem jMask_congr {f f' : Nat → Bool} : ∀ k, (∀ i, i < k → f i = f' i) → jMask f k = jMask f' k
  | 0, _ => rfl
  | k + 1, h => by
    have ih := jMask_congr k (fun i hi => h i (by omega))
    simp only [jMask]; rw [ih, h k (by omega)]
theorem zbi_on : ∀ i, i < 11 → ∃ j, j < 11 ∧ zbi j = i := by decide +kernel
/-- both solves have the same answer -/
theorem xsm {F : yF} {S : yS} (ok : yOk F S) {rg rg' : Nat → Bool} {f0 : Bool} {ip : Nat → Bool} (h : ∀ j, j < S.r → rg j = rg' j) {g1 gs : zM}
    (c1 : yCh (eEq (yPof S rg f0 ip)) (xs g1 (yPof S rg f0 ip))) (f1 : yFix (eEq (yPof S rg f0 ip)) (xs g1 (yPof S rg f0 ip))) (c2 : yCh (eEq (yPof S rg' f0 ip)) (xm gs (yPof S rg' f0 ip))) (f2 : yFix (eEq (yPof S rg' f0 ip)) (xm gs (yPof S rg' f0 ip))) :
    zr g1 (yPof S rg f0 ip) 20 = m1 gs (yPof S rg' f0 ip) ∧ zr g1 (yPof S rg f0 ip) 23 = m2 gs (yPof S rg' f0 ip) := by
  rw [← eEq_rg ok h] at c2 f2
  have e := yCh_eq c1 f1 c2 f2
  exact ⟨congrArg Prod.fst e, congrArg Prod.snd e⟩
theorem con_iff {S : yS} {rg rg' : Nat → Bool} {f0 : Bool} {ip : Nat → Bool} {g1 gs : zM} (hH : zHi g1 (yPof S rg f0 ip)) (h3 : z3 gs (yPof S rg' f0 ip)) (f2 : yFix (eEq (yPof S rg' f0 ip)) (xm gs (yPof S rg' f0 ip)))
    (e1 : zr g1 (yPof S rg f0 ip) 20 = m1 gs (yPof S rg' f0 ip)) (e2 : zr g1 (yPof S rg f0 ip) 23 = m2 gs (yPof S rg' f0 ip)) : (∀ c, c < S.c → g1 21 c = g1 24 c) ↔ mKn gs (yPof S rg' f0 ip) := by
  have w1 : ∀ c j, c < S.c → j < 11 → bt (g1 21 c) (zbi j) = decide (gs 43 (11 * c + j) = 1) := by
    intro c j hc hj
    have h := congrFun e1 (c + 1, j)
    have a1 : zr g1 (yPof S rg f0 ip) 20 (c + 1, j) = bt (g1 21 c) (zbi j) := zr_w (P := yPof S rg f0 ip) (a := 20) hc hj
    have a2 : m1 gs (yPof S rg' f0 ip) (c + 1, j) = decide (gs 43 (11 * c + j) = 1) := (v3_w (P := yPof S rg' f0 ip) h3 hc hj).2.1.symm
    rw [← a1, ← a2]; exact h
  have w2 : ∀ c j, c < S.c → j < 11 → bt (g1 24 c) (zbi j) = !decide (gs 43 (11 * c + j) = 2) := by
    intro c j hc hj
    have h := congrFun e2 (c + 1, j)
    have a1 : zr g1 (yPof S rg f0 ip) 23 (c + 1, j) = bt (g1 24 c) (zbi j) := zr_w (P := yPof S rg f0 ip) (a := 23) hc hj
    have a2 : m2 gs (yPof S rg' f0 ip) (c + 1, j) = !decide (gs 43 (11 * c + j) = 2) := (v3_w (P := yPof S rg' f0 ip) h3 hc hj).2.2.symm
    rw [← a1, ← a2]; exact h
  constructor
  · intro hq
    have wq : ∀ c j, c < S.c → j < 11 → ¬ gs 43 (11 * c + j) = 0 := by
      intro c j hc hj e
      have q1 := w1 c j hc hj
      have q2 := w2 c j hc hj
      rw [hq c hc, q2, e] at q1
      exact absurd q1 (by decide)
    refine ⟨fun k hk => ?_, fun i hi e => ?_⟩
    · have := wq (k / 11) (k % 11) (by have : k < 11 * S.c := hk; omega) (by omega)
      rwa [show 11 * (k / 11) + k % 11 = k by omega] at this
    · have s := h3.2 i hi
      have f := f2 (0, i)
      have g1' : m1 gs (yPof S rg' f0 ip) (0, i) = eSig (yPof S rg' f0 ip) (m1 gs (yPof S rg' f0 ip)) i := by
        have := f.1
        exact this.trans (if_pos hi)
      have g2' : m2 gs (yPof S rg' f0 ip) (0, i) = eSig (yPof S rg' f0 ip) (m2 gs (yPof S rg' f0 ip)) i := by
        have := f.2
        exact this.trans (if_pos hi)
      have g3' : eSig (yPof S rg' f0 ip) (m1 gs (yPof S rg' f0 ip)) i = eSig (yPof S rg' f0 ip) (m2 gs (yPof S rg' f0 ip)) i := by
        refine eSig_congr (fun c hc => ?_) i
        rw [← e1, ← e2]
        have a1 := zr_w (g := g1) (P := yPof S rg f0 ip) (a := 20) (j := 0) hc (by omega)
        have a2 := zr_w (g := g1) (P := yPof S rg f0 ip) (a := 23) (j := 0) hc (by omega)
        rw [a1, a2, hq c hc]
      have b1 : m1 gs (yPof S rg' f0 ip) (0, i) = decide (gs 44 i = 1) := (v3_s (P := yPof S rg' f0 ip) h3 hi).2.1.symm
      have b2 : m2 gs (yPof S rg' f0 ip) (0, i) = !decide (gs 44 i = 2) := (v3_s (P := yPof S rg' f0 ip) h3 hi).2.2.symm
      rw [g1', g3', ← g2', b2, e] at b1
      exact absurd b1 (by decide)
  · intro hk c hc
    have hH' := hH c hc
    refine b_ext fun i hi => ?_
    by_cases h11 : i < 11
    · obtain ⟨j, hj, rfl⟩ := zbi_on i h11
      rw [w1 c j hc hj, w2 c j hc hj]
      have h0 := hk.1 (11 * c + j) (by show _ < 11 * S.c; omega)
      rcases h3.1 c hc j hj with h | h | h
      · exact absurd h h0
      · rw [h]; decide
      · rw [h]; decide
    · rw [(hH' i (by omega) hi).1, (hH' i (by omega) hi).2]
theorem sig_eq {S : yS} {rg rg' : Nat → Bool} {f0 : Bool} {ip : Nat → Bool} {g1 gs : zM} (h3 : z3 gs (yPof S rg' f0 ip))
    (e1 : zr g1 (yPof S rg f0 ip) 20 = m1 gs (yPof S rg' f0 ip)) (e2 : zr g1 (yPof S rg f0 ip) 23 = m2 gs (yPof S rg' f0 ip)) {i : Nat} (hi : i < S.s) :
    (!decide (g1 22 i = 0)) = decide (gs 44 i = 1) ∧ ((!decide (g1 22 i = 0)) != (!decide (g1 25 i = 0))) = decide (gs 44 i = 0) := by
  have h1 : (!decide (g1 22 i = 0)) = decide (gs 44 i = 1) := by
    have a1 : zr g1 (yPof S rg f0 ip) 20 (0, i) = !decide (g1 22 i = 0) := zr_s (P := yPof S rg f0 ip) (a := 20) hi
    have a2 : m1 gs (yPof S rg' f0 ip) (0, i) = decide (gs 44 i = 1) := (v3_s (P := yPof S rg' f0 ip) h3 hi).2.1.symm
    rw [← a1, ← a2]; exact congrFun e1 (0, i)
  have h2 : (!decide (g1 25 i = 0)) = !decide (gs 44 i = 2) := by
    have a1 : zr g1 (yPof S rg f0 ip) 23 (0, i) = !decide (g1 25 i = 0) := zr_s (P := yPof S rg f0 ip) (a := 23) hi
    have a2 : m2 gs (yPof S rg' f0 ip) (0, i) = !decide (gs 44 i = 2) := (v3_s (P := yPof S rg' f0 ip) h3 hi).2.2.symm
    rw [← a1, ← a2]; exact congrFun e2 (0, i)
  refine ⟨h1, ?_⟩
  rw [h1, h2]
  rcases h3.2 i hi with h | h | h <;> rw [h] <;> decide
theorem sol_eq {F : yF} {S : yS} (ok : yOk F S) {a b : Nat → Bool} {f0 : Bool} {ip : Nat → Bool} (h : ∀ j, j < S.r → a j = b j) {g1 gs : zM} (hH : zHi g1 (yPof S a f0 ip))
    (c1 : yCh (eEq (yPof S a f0 ip)) (xs g1 (yPof S a f0 ip))) (f1 : yFix (eEq (yPof S a f0 ip)) (xs g1 (yPof S a f0 ip))) (h3 : z3 gs (yPof S b f0 ip)) (c2 : yCh (eEq (yPof S b f0 ip)) (xm gs (yPof S b f0 ip))) (f2 : yFix (eEq (yPof S b f0 ip)) (xm gs (yPof S b f0 ip))) :
    ((∀ c, c < S.c → g1 21 c = g1 24 c) ↔ mKn gs (yPof S b f0 ip)) ∧ cntB (fun i => (!decide (g1 22 i = 0)) != (!decide (g1 25 i = 0))) 8 = cntB (fun i => decide (gs 44 i = 0)) 8 ∧ jMask (fun i => !decide (g1 22 i = 0)) 8 = jMask (fun i => decide (gs 44 i = 1)) 8 ∧
    (∀ i, i < S.r → fR (yPof S a f0 ip) (zr g1 (yPof S a f0 ip) 20) a S.c i = fR (yPof S b f0 ip) (m1 gs (yPof S b f0 ip)) b S.c i) ∧ yw (zr g1 (yPof S a f0 ip) 20) 0 5 = yw (m1 gs (yPof S b f0 ip)) 0 5 := by
  obtain ⟨e1, e2⟩ := xsm ok h c1 f1 c2 f2
  have h8 : 8 ≤ S.s := ok.2.2.2.1
  refine ⟨con_iff hH h3 f2 e1 e2, cntB_congr 8 fun i hi => (sig_eq h3 e1 e2 (by omega)).2, jMask_congr 8 fun i hi => (sig_eq h3 e1 e2 (by omega)).1, fun i hi => ?_, by rw [e1]⟩
  rw [e1]
  exact fR_eq (h i hi) _
/-! the store grows -/
theorem add_lt {F : yF} {k z p q i : Nat} (h : i < F.n) : (F.add k z p q).kd i = F.kd i ∧ (F.add k z p q).nm i = F.nm i := ⟨yPut_ne _ _ (by omega), yPut_ne _ _ (by omega)⟩
theorem yOk_add {F : yF} {S : yS} {k z p q : Nat} (ok : yOk F S) : yOk (F.add k z p q) S := by
  obtain ⟨o1, o2, o3, o4, o5, o6⟩ := ok
  refine ⟨o1, o2, o3, o4, o5, fun x hx => ⟨?_, (o6 x hx).2⟩⟩
  obtain ⟨r1, r2, r3, r4, r5⟩ := (o6 x hx).1
  have a := add_lt (k := k) (z := z) (p := p) (q := q) r1
  exact ⟨Nat.lt_succ_of_lt r1, by rw [a.1]; exact r2, r3, fun e => by rw [a.2]; exact r4 e, r5⟩
theorem zBm_add {F : yF} {g : zM} {S : yS} {k z p q : Nat} (ok : yOk F S) (h : zBm F g S) : zBm (F.add k z p q) g S := by
  obtain ⟨h1, h2, h3, h4⟩ := h
  refine ⟨h1, h2, h3, fun x hx => ⟨?_, (h4 x hx).2⟩⟩
  have a := add_lt (k := k) (z := z) (p := p) (q := q) (ok.2.2.2.2.2 x hx).1.1
  have b := (h4 x hx).1
  unfold zRq at b ⊢
  rw [a.2]; exact b
theorem zBc.fr {g G : zM} {S : yS} (h : zBc g S) (h1 : ∀ k, 13 ≤ k → k ≤ 18 → G k = g k) (h2 : ∀ j, 10 ≤ j → j ≤ 13 → G 12 j = g 12 j) : zBc G S := by
  have e13 := h1 13 (by omega) (by omega)
  have e14 := h1 14 (by omega) (by omega)
  have e15 := h1 15 (by omega) (by omega)
  have e16 := h1 16 (by omega) (by omega)
  have e17 := h1 17 (by omega) (by omega)
  have e18 := h1 18 (by omega) (by omega)
  obtain ⟨q1, q2, q3, q4, m, q5, q6, q7⟩ := h
  refine ⟨(h2 10 (by omega) (by omega)).trans q1, (h2 11 (by omega) (by omega)).trans q2, (h2 12 (by omega) (by omega)).trans q3, fun x hx => ?_, m, q5, (h2 13 (by omega) (by omega)).trans q6, ?_⟩
  · have := q4 x hx
    unfold zRc at this ⊢
    rw [e13, e14, e15, e16, e17]; exact this
  · unfold zSp at q7 ⊢
    rw [e18]; exact q7
theorem zBm.fr {F : yF} {g G : zM} {S : yS} (h : zBm F g S) (h1 : ∀ k, 35 ≤ k → k ≤ 41 → G k = g k) (h2 : ∀ j, (j = 13 ∨ j = 21 ∨ j = 22) → G 27 j = g 27 j) : zBm F G S := by
  have e35 := h1 35 (by omega) (by omega)
  have e36 := h1 36 (by omega) (by omega)
  have e37 := h1 37 (by omega) (by omega)
  have e38 := h1 38 (by omega) (by omega)
  have e39 := h1 39 (by omega) (by omega)
  have e40 := h1 40 (by omega) (by omega)
  have e41 := h1 41 (by omega) (by omega)
  obtain ⟨q1, q2, q3, q4⟩ := h
  refine ⟨(h2 13 (by omega)).trans q1, (h2 21 (by omega)).trans q2, (h2 22 (by omega)).trans q3, fun x hx => ?_⟩
  have := q4 x hx
  unfold zRq at this ⊢
  rw [e35, e36, e37, e38, e39, e40, e41]; exact this
theorem zFcl.fs {g G : zM} {F : yF} (h : zFcl g F) (hg : ∀ k, 2 ≤ k → k ≤ 11 → G k = g k) (h1 : G 1 10 = g 1 10) : zFcl G F := by
  unfold zFcl at h ⊢
  rw [h1, hg 2 (by omega) (by omega), hg 3 (by omega) (by omega), hg 4 (by omega) (by omega), hg 5 (by omega) (by omega), hg 6 (by omega) (by omega), hg 7 (by omega) (by omega), hg 8 (by omega) (by omega), hg 9 (by omega) (by omega), hg 10 (by omega) (by omega), hg 11 (by omega) (by omega)]
  exact h
/-- there is no program -/
def rNo (g : zM) : Prop := g 12 10 = 0 ∧ g 12 11 = 0 ∧ g 12 14 = 0 ∧ g 12 16 = 0 ∧ g 27 12 = 0 ∧ g 27 13 = 0 ∧ g 27 21 = 0 ∧ g 27 29 = 0
/-- there is one -/
def rPr (F : yF) (S : yS) (t : Nat) (g : zM) : Prop := yOk F S ∧ zBc g S ∧ zBm F g S ∧ ¬ g 27 12 = 0 ∧ g 12 14 = nI t ∧ g 27 29 = nI t ∧ g 12 16 = (if g 27 28 = 0 then 0 else 1) ∧ ∀ j, j < S.r → (g 26 j = 0 ↔ g 42 j = 0)
/-- class and reference behind at most N calls -/
def rRel (N : Nat) (g : zM) : Prop := ∃ F, yFw F ∧ zFcl g F ∧ zFre g F ∧ g 0 2 = g 27 31 ∧ g 12 15 = g 27 30 ∧ (rNo g ∨ ∃ S t, t ≤ N ∧ rPr F S t g)
end AGR
