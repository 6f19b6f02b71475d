/-! one store of statements for both sides -/
abbrev yF : Type := Nat × (Nat → Nat) × (Nat → Nat) × (Nat → Nat) × (Nat → Nat) × (Nat → Nat) × (Nat → Nat) × (Nat → Nat) × (Nat → Nat) × (Nat → Nat) × (Nat → Bool)
abbrev yF.n (F : yF) : Nat := F.1
abbrev yF.kd (F : yF) : Nat → Nat := F.2.1
abbrev yF.nm (F : yF) : Nat → Nat := F.2.2.1
abbrev yF.fi (F : yF) : Nat → Nat := F.2.2.2.1
abbrev yF.se (F : yF) : Nat → Nat := F.2.2.2.2.1
abbrev yF.cd (F : yF) : Nat → Nat := F.2.2.2.2.2.1
abbrev yF.dp (F : yF) : Nat → Nat := F.2.2.2.2.2.2.1
abbrev yF.cp (F : yF) : Nat → Nat := F.2.2.2.2.2.2.2.1
abbrev yF.ps (F : yF) : Nat → Nat := F.2.2.2.2.2.2.2.2.1
abbrev yF.mt (F : yF) : Nat → Nat := F.2.2.2.2.2.2.2.2.2.1
abbrev yF.nv (F : yF) : Nat → Bool := F.2.2.2.2.2.2.2.2.2.2
def yPut {α : Type} (f : Nat → α) (n : Nat) (v : α) : Nat → α := fun i => if i = n then v else f i
theorem yPut_at {α : Type} (f : Nat → α) (n : Nat) (v : α) : yPut f n v n = v := if_pos rfl
theorem yPut_ne {α : Type} (f : Nat → α) {n i : Nat} (v : α) (h : i ≠ n) : yPut f n v i = f i := if_neg h
def pI (x : Nat) : Int32 := if x < 60 then nI x else -1
theorem pI_lt {x : Nat} (h : x < 60) : pI x = nI x := if_pos h
theorem pI_60 : pI 60 = -1 := if_neg (by omega)
def yNb (k : Nat) : Prop := k = 2 ∨ k = 6 ∨ k = 7 ∨ k = 8 ∨ k = 10
def nMax (a b : Nat) : Nat := if a < b then b else a
def yMt (k z m : Nat) : Nat := if k = 10 then z + 1 else if k = 9 then m - 1 else m
def yCd (k z x y : Nat) : Nat := (jCodes (nI k) (nI z) (nI x) (nI y)).toNatClampNeg
def yNv (k x : Nat) (a b : Bool) : Bool := (decide (k = 5) && decide (x % 2 = 1)) || a || b
/-- what is asked of one statement -/
def yFw1 (F : yF) (i : Nat) : Prop :=
  F.kd i ≤ 10 ∧ ((F.kd i = 2 ∨ F.kd i = 8) → 3 ≤ F.nm i) ∧ ((F.kd i = 2 ∨ F.kd i = 6 ∨ F.kd i = 7 ∨ F.kd i = 8) → F.nm i < 8) ∧ (F.kd i = 10 → F.nm i < 4) ∧
  ((3 ≤ F.kd i ∧ F.kd i ≤ 9) → F.fi i < i) ∧ (¬ (3 ≤ F.kd i ∧ F.kd i ≤ 9) → F.fi i = 60) ∧ ((3 ≤ F.kd i ∧ F.kd i ≤ 6) → F.se i < i) ∧ (¬ (3 ≤ F.kd i ∧ F.kd i ≤ 6) → F.se i = 60) ∧ (F.kd i = 5 → F.se i = F.fi i) ∧
  F.cd i < 64 ∧ F.dp i = 1 + nMax (F.dp (F.fi i)) (F.dp (F.se i)) ∧ F.dp i ≤ 20 ∧ F.cp i = 1 + F.cp (F.fi i) + F.cp (F.se i) ∧ F.cp i < 2 ^ F.dp i ∧
  F.ps i = (if F.kd i = 1 then 1 else 0) + F.ps (F.fi i) + F.ps (F.se i) ∧ F.ps i ≤ F.cp i ∧ F.mt i = yMt (F.kd i) (F.nm i) (nMax (F.mt (F.fi i)) (F.mt (F.se i))) ∧ F.mt i ≤ 4 ∧
  F.nv i = yNv (F.kd i) (F.cd (F.fi i)) (F.nv (F.fi i)) (F.nv (F.se i))
def yFw (F : yF) : Prop := F.n ≤ 60 ∧ (F.cd 60 = 0 ∧ F.dp 60 = 0 ∧ F.cp 60 = 0 ∧ F.ps 60 = 0 ∧ F.mt 60 = 0 ∧ F.nv 60 = false) ∧ ∀ i, i < F.n → yFw1 F i
/-- a request that is granted -/
def yReq (F : yF) (k z p q : Nat) : Prop :=
  k ≤ 10 ∧ ((k = 2 ∨ k = 8) → 3 ≤ z) ∧ ((k = 2 ∨ k = 6 ∨ k = 7 ∨ k = 8) → z < 8) ∧ (k = 10 → z < 4) ∧
  ((3 ≤ k ∧ k ≤ 9) → p < F.n) ∧ (¬ (3 ≤ k ∧ k ≤ 9) → p = 60) ∧ ((k = 3 ∨ k = 4 ∨ k = 6) → q < F.n) ∧ (¬ (k = 3 ∨ k = 4 ∨ k = 6) → q = 60) ∧ 1 + nMax (F.dp p) (F.dp q) ≤ 20
def ySec (k p q : Nat) : Nat := if k = 5 then p else q
def yF.add (F : yF) (k z p q : Nat) : yF :=
  (F.n + 1, yPut F.kd F.n k, yPut F.nm F.n z, yPut F.fi F.n p, yPut F.se F.n (ySec k p q), yPut F.cd F.n (yCd k z (F.cd p) (F.cd (ySec k p q))), yPut F.dp F.n (1 + nMax (F.dp p) (F.dp q)),
   yPut F.cp F.n (1 + F.cp p + F.cp (ySec k p q)), yPut F.ps F.n ((if k = 1 then 1 else 0) + F.ps p + F.ps (ySec k p q)), yPut F.mt F.n (yMt k z (nMax (F.mt p) (F.mt (ySec k p q)))), yPut F.nv F.n (yNv k (F.cd p) (F.nv p) (F.nv (ySec k p q))))
theorem low6 {v : Int32} (h : ∀ i, 6 ≤ i → i < 32 → bt v i = false) : ∃ w, w < 64 ∧ v = nI w := by
  have e : v &&& 63 = v := by
    refine b_ext fun i hi => ?_
    rw [b_and, bm_63 i hi]
    by_cases h6 : i < 6
    · simp [h6]
    · rw [h i (by omega) hi]; rfl
  obtain ⟨j, hj, h2⟩ := pk_andE v (m := 63) 6 (by decide)
  exact ⟨j, hj, by rw [← e]; exact h2⟩
theorem hi6 {x : Nat} (hx : x < 64) {i : Nat} (h6 : 6 ≤ i) (hi : i < 32) : bt (nI x) i = false := by
  have e : nI x &&& 63 = nI x := by
    have := pk_andN (n := x) (by omega) (m := 63) 6 (by decide)
    rw [this, Nat.mod_eq_of_lt (by omega)]
  rw [← e, b_and, bm_63 i hi, decide_eq_false (by omega), Bool.and_false]
theorem jO_hi (x : Nat) (hx : x < 64) : ∃ w, w < 64 ∧ jOutside (nI x) = nI w := by
  have := (by decide +kernel : ∀ x, x < 64 → (jOutside (nI x)).toNatClampNeg < 64 ∧ jOutside (nI x) = nI (jOutside (nI x)).toNatClampNeg) x hx
  exact ⟨_, this.1, this.2⟩
theorem jX_hi : ∀ z, z < 4 → (4 : Int32) <<< (nI z &&& 31) = nI (4 * 2 ^ z) ∧ 4 * 2 ^ z < 64 := by decide +kernel
theorem jCodes_lt {k z x y : Nat} (hk : k ≤ 10) (hz : k = 10 → z < 4) (hx : x < 64) (hy : y < 64) : jCodes (nI k) (nI z) (nI x) (nI y) = nI (yCd k z x y) ∧ yCd k z x y < 64 := by
  have h : ∃ w, w < 64 ∧ jCodes (nI k) (nI z) (nI x) (nI y) = nI w := by
    have hcase : k = 0 ∨ k = 1 ∨ k = 2 ∨ k = 3 ∨ k = 4 ∨ k = 5 ∨ k = 6 ∨ k = 7 ∨ k = 8 ∨ k = 9 ∨ k = 10 := by omega
    rcases hcase with rfl | rfl | rfl | rfl | rfl | rfl | rfl | rfl | rfl | rfl | rfl
    · exact ⟨1, by omega, rfl⟩
    · exact ⟨2, by omega, rfl⟩
    · exact ⟨1, by omega, rfl⟩
    · show ∃ w, w < 64 ∧ (if nI x &&& 1 = 0 then nI x else (nI x &&& (-2)) ||| nI y) = nI w
      split
      · exact ⟨x, hx, rfl⟩
      · refine low6 fun i h6 hi => ?_
        rw [b_or, b_and, hi6 hx h6 hi, hi6 hy h6 hi]; rfl
    · show ∃ w, w < 64 ∧ (nI x &&& jReached (nI y)) ||| (nI y &&& jReached (nI x)) = nI w
      refine low6 fun i h6 hi => ?_
      rw [b_or, b_and, b_and, hi6 hx h6 hi, hi6 hy h6 hi]; rfl
    · show ∃ w, w < 64 ∧ nI x &&& (-2) = nI w
      refine low6 fun i h6 hi => ?_
      rw [b_and, hi6 hx h6 hi]; rfl
    · show ∃ w, w < 64 ∧ nI x ||| nI y = nI w
      refine low6 fun i h6 hi => ?_
      rw [b_or, hi6 hx h6 hi, hi6 hy h6 hi]; rfl
    · exact ⟨x, hx, rfl⟩
    · exact ⟨x, hx, rfl⟩
    · exact jO_hi x hx
    · have := jX_hi z (hz rfl)
      exact ⟨_, this.2, this.1⟩
  obtain ⟨w, hw, e⟩ := h
  unfold yCd
  rw [e, nI_clamp (by omega)]
  exact ⟨rfl, hw⟩
theorem jCodes_z {k : Nat} {y y' x w : Int32} (hk : k ≤ 10) (h : k = 10 → y = y') : jCodes (nI k) y x w = jCodes (nI k) y' x w := by
  by_cases e : k = 10
  · rw [h e]
  · have e2 : ¬ nI k = 10 := fun q => e ((nI_is 10 rfl (by omega) (by omega)).mp q)
    unfold jCodes
    rw [if_neg e2, if_neg e2]
theorem nMax_I {a b : Nat} (ha : a < 2 ^ 31) (hb : b < 2 ^ 31) : jMax (nI a) (nI b) = nI (nMax a b) := by
  unfold jMax nMax
  by_cases h : a < b
  · rw [if_pos h, if_pos (nI_lt h hb)]
  · rw [if_neg h, if_neg (nI_nlt (by omega) ha)]
theorem bit0 : ∀ x, x < 64 → (nI x &&& 1 = 0 ↔ ¬ x % 2 = 1) := by decide +kernel
/-- an added statement keeps the order of the store -/
theorem yFw_add {F : yF} {k z p q : Nat} (hw : yFw F) (hn : F.n < 60) (hr : yReq F k z p q) : yFw (F.add k z p q) := by
  obtain ⟨w1, ⟨w2, w3, w4, w5, w6, w7⟩, w8⟩ := hw
  obtain ⟨r1, r2, r3, r4, r5, r6, r7, r8, r9⟩ := hr
  have hp : p < F.n ∨ p = 60 := by
    by_cases e : 3 ≤ k ∧ k ≤ 9
    · exact Or.inl (r5 e)
    · exact Or.inr (r6 e)
  have hq : q < F.n ∨ q = 60 := by
    by_cases e : k = 3 ∨ k = 4 ∨ k = 6
    · exact Or.inl (r7 e)
    · exact Or.inr (r8 e)
  have hs : ySec k p q < F.n ∨ ySec k p q = 60 := by unfold ySec; split <;> assumption
  have ne : ∀ {x}, (x < F.n ∨ x = 60) → x ≠ F.n := by intro x h; omega
  have cdl : ∀ {x}, (x < F.n ∨ x = 60) → F.cd x < 64 := by
    rintro x (h | rfl)
    · exact (w8 x h).2.2.2.2.2.2.2.2.2.1
    · rw [w2]; omega
  have mtl : ∀ {x}, (x < F.n ∨ x = 60) → F.mt x ≤ 4 := by
    rintro x (h | rfl)
    · exact (w8 x h).2.2.2.2.2.2.2.2.2.2.2.2.2.2.2.2.2.1
    · rw [w6]; omega
  have cpl : ∀ {x}, (x < F.n ∨ x = 60) → F.cp x < 2 ^ F.dp x := by
    rintro x (h | rfl)
    · exact (w8 x h).2.2.2.2.2.2.2.2.2.2.2.2.2.1
    · rw [w4, w3]; omega
  have psl : ∀ {x}, (x < F.n ∨ x = 60) → F.ps x ≤ F.cp x := by
    rintro x (h | rfl)
    · exact (w8 x h).2.2.2.2.2.2.2.2.2.2.2.2.2.2.2.1
    · rw [w4, w5]; omega
  have fis : ∀ {i}, i < F.n → (F.fi i < F.n ∨ F.fi i = 60) ∧ (F.se i < F.n ∨ F.se i = 60) := by
    intro i hi
    obtain ⟨-, -, -, -, q1, q2, q3, q4, -⟩ := w8 i hi
    constructor
    · by_cases e : 3 ≤ F.kd i ∧ F.kd i ≤ 9
      · exact Or.inl (Nat.lt_trans (q1 e) hi)
      · exact Or.inr (q2 e)
    · by_cases e : 3 ≤ F.kd i ∧ F.kd i ≤ 6
      · exact Or.inl (Nat.lt_trans (q3 e) hi)
      · exact Or.inr (q4 e)
  have h60 : 60 ≠ F.n := by omega
  refine ⟨by show F.n + 1 ≤ 60; omega, ⟨?_, ?_, ?_, ?_, ?_, ?_⟩, fun i hi => ?_⟩
  · show yPut F.cd F.n _ 60 = 0; rw [yPut_ne _ _ h60, w2]
  · show yPut F.dp F.n _ 60 = 0; rw [yPut_ne _ _ h60, w3]
  · show yPut F.cp F.n _ 60 = 0; rw [yPut_ne _ _ h60, w4]
  · show yPut F.ps F.n _ 60 = 0; rw [yPut_ne _ _ h60, w5]
  · show yPut F.mt F.n _ 60 = 0; rw [yPut_ne _ _ h60, w6]
  · show yPut F.nv F.n _ 60 = false; rw [yPut_ne _ _ h60, w7]
  · rcases Nat.lt_or_ge i F.n with h | h
    · have hne : i ≠ F.n := by omega
      have := w8 i h
      obtain ⟨f1, f2⟩ := fis h
      unfold yFw1 at this ⊢
      simp only [yF.add, yF.kd, yF.nm, yF.fi, yF.se, yF.cd, yF.dp, yF.cp, yF.ps, yF.mt, yF.nv, yF.n] at this f1 f2 hne ⊢
      simp only [yPut_ne _ _ hne, yPut_ne _ _ (ne f1), yPut_ne _ _ (ne f2)]
      exact this
    · obtain rfl : i = F.n := by have : i < F.n + 1 := hi; omega
      have e1 := ne hp
      have e2 := ne hs
      have c1 := cpl hp
      have c2 := cpl hs
      have p1 := psl hp
      have p2 := psl hs
      have m1 := mtl hp
      have m2 := mtl hs
      have cc := (jCodes_lt (k := k) (z := z) r1 r4 (cdl hp) (cdl hs)).2
      have dpe : nMax (F.dp p) (F.dp (ySec k p q)) = nMax (F.dp p) (F.dp q) := by
        unfold ySec
        split
        · rename_i e
          rw [r8 (by omega), w3]; unfold nMax; split <;> split <;> omega
        · rfl
      have dl : ∀ {a b : Nat}, 2 ^ a ≤ 2 ^ nMax a b ∧ 2 ^ b ≤ 2 ^ nMax a b := by
        intro a b
        exact ⟨Nat.pow_le_pow_right (by omega) (by unfold nMax; split <;> omega), Nat.pow_le_pow_right (by omega) (by unfold nMax; split <;> omega)⟩
      have d1 := @dl (F.dp p) (F.dp (ySec k p q))
      unfold yFw1
      simp only [yF.add, yF.kd, yF.nm, yF.fi, yF.se, yF.cd, yF.dp, yF.cp, yF.ps, yF.mt, yF.nv, yF.n] at *
      simp only [yPut_at, yPut_ne _ _ e1, yPut_ne _ _ e2]
      refine ⟨r1, r2, r3, r4, r5, r6, fun e => ?_, fun e => ?_, fun e => ?_, cc, ?_, r9, by trivial, ?_, by trivial, ?_, by trivial, ?_, by trivial⟩
      · unfold ySec; split
        · exact r5 (by omega)
        · exact r7 (by omega)
      · unfold ySec; split
        · omega
        · exact r8 (by omega)
      · unfold ySec; rw [if_pos e]
      · rw [dpe]
      · rw [← dpe, Nat.add_comm 1 (nMax _ _), Nat.pow_succ]; omega
      · split <;> omega
      · unfold yMt nMax; split
        · have := r4 (by assumption); omega
        · split <;> split <;> omega
/-- the class's store -/
def zFcl (g : zM) (F : yF) : Prop := g 1 10 = nI F.n ∧ ∀ i, i < F.n → g 2 i = nI (F.kd i) ∧ (yNb (F.kd i) → g 3 i = nI (F.nm i)) ∧ g 4 i = pI (F.fi i) ∧ g 5 i = pI (F.se i) ∧ g 6 i = nI (F.cd i) ∧ g 7 i = nI (F.dp i) ∧ g 8 i = nI (F.cp i) ∧ g 9 i = nI (F.ps i) ∧ g 10 i = nI (F.mt i) ∧ (g 11 i = 0 ↔ F.nv i = false)
/-- the reference's store -/
def zFre (g : zM) (F : yF) : Prop := g 27 1 = nI F.n ∧ ∀ i, i < F.n → g 28 i = nI (F.kd i) ∧ (yNb (F.kd i) → g 29 i = nI (F.nm i)) ∧ ((3 ≤ F.kd i ∧ F.kd i ≤ 9) → g 30 i = nI (F.fi i)) ∧ ((F.kd i = 3 ∨ F.kd i = 4 ∨ F.kd i = 6) → g 31 i = nI (F.se i)) ∧ g 32 i = nI (F.dp i) ∧ g 33 i = nI (F.cd i)
theorem zfact_p {g : zM} {a n x : Nat} {f : Nat → Nat} (hn : g 1 10 = nI n) (hn6 : n ≤ 60) (h : ∀ i, i < n → g a i = nI (f i)) (h60 : f 60 = 0) (hx : x < n ∨ x = 60) : zfact g a (pI x) = nI (f x) := by
  rcases hx with hx | rfl
  · rw [pI_lt (by omega), zfact_in hn hn6 hx, h x hx]
  · rw [pI_60, zfact_m1, h60]; rfl
theorem pI_out {g : zM} {n x : Nat} (hn : g 1 10 = nI n) (hn6 : n ≤ 60) (hx : x < n ∨ x = 60) : (pI x < 0 ∨ g 1 10 ≤ pI x) ↔ x = 60 := by
  rcases hx with hx | rfl
  · rw [pI_lt (by omega), hn]
    constructor
    · rintro (h | h)
      · exact absurd h (nI_pos (by omega))
      · exact absurd h (nI_ge hx (by omega))
    · intro h; omega
  · rw [pI_60]; exact ⟨fun _ => rfl, fun _ => Or.inl (by decide)⟩
set_option maxHeartbeats 4000000 in
theorem sp_S_addF {l : Launch} {d : Nat} {g : zM} {r : Option Value → zM → Prop} {F : yF} {k z p q : Nat} {y : Int32} (hF : zFcl g F) (hw : yFw F) (hn : F.n < 60) (hr : yReq F k z p q) (hy : yNb k → y = nI z)
    (h : ∀ G, zFcl G (F.add k z p q) → (∀ a, (a < 1 ∨ 11 < a) → G a = g a) → (∀ j, j ≠ 10 → G 1 j = g 1 j) → r (some (.int (nI F.n))) G) : qs_S_add l (d + 4) [.ref 1, .int (nI k), .int y, .int (pI p), .int (pI q)] g r := by
  have hw' := hw
  have hr' := hr
  obtain ⟨f1, f2⟩ := hF
  obtain ⟨w1, ⟨w2, w3, w4, w5, w6, w7⟩, w8⟩ := hw
  obtain ⟨r1, r2, r3, r4, r5, r6, r7, r8, r9⟩ := hr
  have hp : p < F.n ∨ p = 60 := by
    by_cases e : 3 ≤ k ∧ k ≤ 9
    · exact Or.inl (r5 e)
    · exact Or.inr (r6 e)
  have hq : q < F.n ∨ q = 60 := by
    by_cases e : k = 3 ∨ k = 4 ∨ k = 6
    · exact Or.inl (r7 e)
    · exact Or.inr (r8 e)
  have hs : ySec k p q < F.n ∨ ySec k p q = 60 := by unfold ySec; split <;> assumption
  have es : pI (ySec k p q) = if k = 5 then pI p else pI q := by unfold ySec; split <;> rfl
  have cdl : ∀ {x}, (x < F.n ∨ x = 60) → F.cd x < 64 := by
    rintro x (h | rfl)
    · exact (w8 x h).2.2.2.2.2.2.2.2.2.1
    · rw [w2]; omega
  have mtl : ∀ {x}, (x < F.n ∨ x = 60) → F.mt x ≤ 4 := by
    rintro x (h | rfl)
    · exact (w8 x h).2.2.2.2.2.2.2.2.2.2.2.2.2.2.2.2.2.1
    · rw [w6]; omega
  have dpl : ∀ {x}, (x < F.n ∨ x = 60) → F.dp x ≤ 20 := by
    rintro x (h | rfl)
    · exact (w8 x h).2.2.2.2.2.2.2.2.2.2.2.1
    · rw [w3]; omega
  have a6 : ∀ {x}, (x < F.n ∨ x = 60) → zfact g 6 (pI x) = nI (F.cd x) := fun hx => zfact_p f1 w1 (fun i hi => (f2 i hi).2.2.2.2.1) w2 hx
  have a7 : ∀ {x}, (x < F.n ∨ x = 60) → zfact g 7 (pI x) = nI (F.dp x) := fun hx => zfact_p f1 w1 (fun i hi => (f2 i hi).2.2.2.2.2.1) w3 hx
  have a8 : ∀ {x}, (x < F.n ∨ x = 60) → zfact g 8 (pI x) = nI (F.cp x) := fun hx => zfact_p f1 w1 (fun i hi => (f2 i hi).2.2.2.2.2.2.1) w4 hx
  have a9 : ∀ {x}, (x < F.n ∨ x = 60) → zfact g 9 (pI x) = nI (F.ps x) := fun hx => zfact_p f1 w1 (fun i hi => (f2 i hi).2.2.2.2.2.2.2.1) w5 hx
  have a10 : ∀ {x}, (x < F.n ∨ x = 60) → zfact g 10 (pI x) = nI (F.mt x) := fun hx => zfact_p f1 w1 (fun i hi => (f2 i hi).2.2.2.2.2.2.2.2.1) w6 hx
  have a11 : ∀ {x}, (x < F.n ∨ x = 60) → ((¬ (pI x < 0 ∨ g 1 10 ≤ pI x) ∧ ¬ zfact g 11 (pI x) = 0) ↔ F.nv x = true) := by
    intro x hx
    rw [pI_out f1 w1 hx]
    rcases hx with hx | rfl
    · rw [pI_lt (by omega), zfact_in f1 w1 hx, (f2 x hx).2.2.2.2.2.2.2.2.2]
      constructor
      · rintro ⟨-, h⟩; cases hv : F.nv x with | true => rfl | false => exact absurd hv h
      · intro h; rw [h]; exact ⟨by omega, by simp⟩
    · rw [w7]; simp
  refine sp_S_add (n := F.n) (s := pI (ySec k p q)) f1 hn r1 es ?_
  intro G g1 g2 g3 g4 v2 v3 v4 v5 v6 v7 v8 v9 v10 v11
  refine h G ⟨g1, fun i hi => ?_⟩ g3 g4
  rcases Nat.lt_or_ge i F.n with hi2 | hi2
  · have hne : i ≠ F.n := by omega
    have := f2 i hi2
    simp only [yF.add, yF.kd, yF.nm, yF.fi, yF.se, yF.cd, yF.dp, yF.cp, yF.ps, yF.mt, yF.nv, yF.n] at this hne g2 ⊢
    simp only [yPut_ne _ _ hne, g2 2 (by omega) i hne, g2 3 (by omega) i hne, g2 4 (by omega) i hne, g2 5 (by omega) i hne, g2 6 (by omega) i hne, g2 7 (by omega) i hne, g2 8 (by omega) i hne, g2 9 (by omega) i hne, g2 10 (by omega) i hne, g2 11 (by omega) i hne]
    exact this
  · obtain rfl : i = F.n := by have : i < F.n + 1 := hi; omega
    have x10 : nI k = 10 ↔ k = 10 := nI_is 10 rfl (by omega) (by omega)
    have x9 : nI k = 9 ↔ k = 9 := nI_is 9 rfl (by omega) (by omega)
    have e6 : G 6 F.n = nI (yCd k z (F.cd p) (F.cd (ySec k p q))) := by
      rw [v6, a6 hp, a6 hs, jCodes_z r1 (fun e => hy (Or.inr (Or.inr (Or.inr (Or.inr e)))))]
      exact (jCodes_lt r1 r4 (cdl hp) (cdl hs)).1
    have e7 : G 7 F.n = nI (1 + nMax (F.dp p) (F.dp q)) := by
      have d1 := dpl hp
      have d2 := dpl hq
      rw [v7, a7 hp, a7 hq, nMax_I (by omega) (by omega)]
      exact nI_add 1 _
    have e8 : G 8 F.n = nI (1 + F.cp p + F.cp (ySec k p q)) := by
      rw [v8, a8 hp, a8 hs, ← nI_add, ← nI_add]; rfl
    have e9 : G 9 F.n = nI ((if k = 1 then 1 else 0) + F.ps p + F.ps (ySec k p q)) := by
      rw [v9, a9 hp, a9 hs, ← nI_add, ← nI_add]
      split <;> rfl
    have e10 : G 10 F.n = nI (yMt k z (nMax (F.mt p) (F.mt (ySec k p q)))) := by
      have d1 := mtl hp
      have d2 := mtl hs
      rw [v10]
      unfold jMiss yMt
      rw [a10 hp, a10 hs, nMax_I (by omega) (by omega)]
      by_cases e : k = 10
      · rw [if_pos (x10.mpr e), if_pos e, hy (Or.inr (Or.inr (Or.inr (Or.inr e))))]; exact nI_1 z
      · rw [if_neg (fun q => e (x10.mp q)), if_neg e]
        have hm : nMax (F.mt p) (F.mt (ySec k p q)) ≤ 4 := by unfold nMax; split <;> omega
        generalize nMax (F.mt p) (F.mt (ySec k p q)) = m at hm
        by_cases e9 : k = 9
        · rw [if_pos e9]
          cases m with
          | zero => rw [if_neg (fun q => q.2 (by decide))]
          | succ m => rw [if_pos ⟨x9.mpr e9, nI_nle (by omega) (by omega)⟩, nI_pred]; rfl
        · rw [if_neg (fun q => e9 (x9.mp q.1)), if_neg e9]
    have e11 : G 11 F.n = 0 ↔ yNv k (F.cd p) (F.nv p) (F.nv (ySec k p q)) = false := by
      rw [v11]
      unfold jNever yNv
      rw [a11 hp, a11 hs, a6 hp, bit0 _ (cdl hp)]
      by_cases c5 : k = 5 <;> by_cases c1 : F.cd p % 2 = 1 <;> simp [c5, c1]
    simp only [yF.add, yF.kd, yF.nm, yF.fi, yF.se, yF.cd, yF.dp, yF.cp, yF.ps, yF.mt, yF.nv, yF.n] at v2 v3 v4 v5 e6 e7 e8 e9 e10 e11 ⊢
    simp only [yPut_at]
    exact ⟨v2, fun e => by rw [v3]; exact hy e, v4, v5, e6, e7, e8, e9, e10, e11⟩
