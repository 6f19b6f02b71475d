/-! an instant on both sides -/
section PRE
variable {l : Launch} {d N : Nat} {g : zM}
def yP0 : yP := yPof yS0 (fun _ => false) false (fun _ => false)
set_option maxHeartbeats 4000000 in
theorem pc_react {x : Int32} (hl9 : l.stackTraces = false) (h : rRel N g) (hN : N < 2 ^ 30) : qh_L_react l (d + 30) [.ref 0, .int x, .ref 46] g (fun v G => ∃ k, v = some (.int k) ∧ qs_M_react l (d + 30) [.ref 27, .int x] G (pEnd (N + 1) k)) := by
  obtain ⟨F, hw, hF, hM, h4, h5, h6⟩ := id h
  have q8 : (x < 0 ∨ 8 ≤ x) ↔ (x < 0 ∨ 7 < x) := by rw [i7]
  have out : ∀ (P : yP) (e : x < 0 ∨ 8 ≤ x), ∃ k : Int32, some (Value.int 1) = some (.int k) ∧ qs_M_react l (d + 30) [.ref 27, .int x] g (pEnd (N + 1) k) := by
    intro P e
    have e' := q8.mp e
    exact ⟨1, rfl, sp_M_react (P := P) (sn := fun _ => 0) (t := 0) (fun _ => ⟨0, rfl, h.fr (rFr.thr g 1) (by omega), zU_at _ _ _ _, fun q => absurd q (by decide)⟩) (fun q => absurd e' q) (fun q => absurd e' q) (fun q => absurd e' q) (fun q => absurd e' q) (fun q => absurd e' q)⟩
  rcases h6 with ⟨a1, a2, a3, a4, a5, a6, a7, a8⟩ | ⟨S, t, ht, a1, a2, a3, a4, a5, a6, a7, a8⟩
  · refine sp_L_react (P := yP0) (m := 0) (st := fun _ => (0, true)) hl9 (fun e => out yP0 e) (fun e _ => ⟨2, rfl, ?_⟩) (fun _ q => absurd a1 q) (fun _ q => absurd a1 q) (fun _ q => absurd a1 q) (fun _ q => absurd a1 q)
    exact sp_M_react (P := yP0) (sn := fun _ => 0) (t := 0) (fun q => absurd (q8.mpr q) e) (fun _ _ => ⟨0, rfl, h.fr (rFr.thr g 2) (by omega), zU_at _ _ _ _, fun q => absurd q (by decide)⟩) (fun _ q => absurd a5 q) (fun _ q => absurd a5 q) (fun _ q => absurd a5 q) (fun _ q => absurd a5 q)
  · have c1 : ¬ g 12 10 = 0 := by rw [a2.1]; exact nI_ne0 (by have := a1.1; omega) (by have := a1.2.1; omega)
    have o16 : g 12 16 = 0 ↔ g 27 28 = 0 := by
      rw [a7]; by_cases w : g 27 28 = 0
      · rw [if_pos w]; exact ⟨fun _ => w, fun _ => rfl⟩
      · rw [if_neg w]; exact ⟨fun q => absurd q (by decide), fun q => absurd q w⟩
    have hE : ∀ c, c < S.c → S.kd c = 2 → 3 ≤ S.nm c := fun c hc => (a1.2.2.2.2.2 c hc).1.2.2.2.2.2.1
    have hrg : ∀ j, j < S.r → (!decide (g 26 j = 0)) = (!decide (g 42 j = 0)) := fun j hj => by rw [decide_eq_decide.mpr (a8 j hj)]
    obtain ⟨m, st, s1, s2⟩ := zBc_st (rg := fun j => !decide (g 26 j = 0)) (f0 := decide (nI t = 0)) (ip := fun i => !decide (jIn x i = 0)) a1 a2
    have hPr : zPr g (yPof S (fun j => !decide (g 26 j = 0)) (decide (nI t = 0)) (fun i => !decide (jIn x i = 0))) := by
      have := zBc_pr (ip := fun i => !decide (jIn x i = 0)) hw a1 a2
      rw [a5] at this; exact this
    have hmr : ∀ G : zM, (∀ k, (k = 27 ∨ (28 ≤ k ∧ k ≤ 33) ∨ (35 ≤ k ∧ k ≤ 42)) → G k = g k) → zMr (zU G 27 0 0) (yPof S (fun j => !decide (g 42 j = 0)) (decide (nI t = 0)) (fun i => !decide (jIn x i = 0))) S.sn := by
      intro G hG
      have e27 : ∀ j, j ≠ 0 → zU G 27 0 0 27 j = g 27 j := fun j hj => by rw [zU_off _ _ _ _ hj, hG 27 (by omega)]
      have ek : ∀ k, k ≠ 27 → zU G 27 0 0 k = G k := fun k hk => zU_ne _ _ _ _ hk
      have := zBm_mr (g := zU G 27 0 0) (ip := fun i => !decide (jIn x i = 0)) hw (hM.fr (fun k h1 h2 => by rw [ek k (by omega), hG k (by omega)]) (e27 1 (by omega))) a1 (a3.fr (fun k h1 h2 => by rw [ek k (by omega), hG k (by omega)]) (fun j hj => e27 j (by omega)))
      rw [e27 29 (by omega), a6, ek 42 (by omega), hG 42 (by omega)] at this
      exact this
    refine sp_L_react (P := yPof S (fun j => !decide (g 26 j = 0)) (decide (nI t = 0)) (fun i => !decide (jIn x i = 0))) (m := m) (st := st) hl9 (fun e => out yP0 e) (fun _ q => absurd q c1) (fun e _ e16 => ⟨0, rfl, ?_⟩) (fun _ _ _ => ⟨hPr, hE, s1, s2, fun i _ => rfl⟩) (fun e _ e16 g1 f1 f2 f3 f4 f5 => ⟨2, rfl, ?_⟩) (fun e _ e16 g1 g2 f1 f2 f3 f4 f5 b1 b2 b3 b4 => ⟨0, rfl, ?_⟩)
    · -- it is over
      have z27 : zU (zU g 12 14 (g 12 14 + 1)) 46 0 x 27 = g 27 := by rw [zU_ne _ _ _ _ (by omega), zU_ne _ _ _ _ (by omega)]
      have n28 : ¬ g 27 28 = 0 := fun q => e16 (o16.mpr q)
      refine sp_M_react (P := yP0) (sn := fun _ => 0) (t := 0) (fun q => absurd (q8.mpr q) e) (fun _ q => absurd (by rw [z27] at q; exact q) a4) (fun _ _ _ => ?_) (fun _ _ q => absurd (by rw [z27] at q; exact q) n28) (fun _ _ q => absurd (by rw [z27] at q; exact q) n28) (fun _ _ q => absurd (by rw [z27] at q; exact q) n28)
      rw [z27]
      refine ⟨_, rfl, ⟨F, hw, ?_, ?_, ?_, ?_, Or.inr ⟨S, t + 1, by omega, a1, ?_, ?_, ?_, ?_, ?_, ?_, ?_⟩⟩, ?_, fun _ => ?_⟩
      · exact hF.fs (fun k _ _ => by rw [zU_ne _ _ _ _ (by omega), zU_ne _ _ _ _ (by omega), zU_ne _ _ _ _ (by omega), zU_ne _ _ _ _ (by omega)]) (by rw [zU_ne _ _ _ _ (by omega), zU_ne _ _ _ _ (by omega), zU_ne _ _ _ _ (by omega), zU_ne _ _ _ _ (by omega)])
      · exact hM.fr (fun k _ _ => by rw [zU_ne _ _ _ _ (by omega), zU_ne _ _ _ _ (by omega), zU_ne _ _ _ _ (by omega), zU_ne _ _ _ _ (by omega)]) (by rw [zU_off _ _ _ _ (by omega), zU_off _ _ _ _ (by omega), z27])
      · rw [zU_off _ 27 29 _ (by omega), zU_off _ 27 0 _ (by omega), z27, zU_ne _ 27 29 _ (by omega), zU_ne _ 27 0 _ (by omega), zU_ne _ 46 0 _ (by omega), zU_ne _ 12 14 _ (by omega)]; exact h4
      · rw [zU_off _ 27 29 _ (by omega), zU_off _ 27 0 _ (by omega), z27, zU_ne _ 27 29 _ (by omega), zU_ne _ 27 0 _ (by omega), zU_ne _ 46 0 _ (by omega), zU_off _ 12 14 _ (by omega)]; exact h5
      · exact a2.fr (fun k _ _ => by rw [zU_ne _ _ _ _ (by omega), zU_ne _ _ _ _ (by omega), zU_ne _ _ _ _ (by omega), zU_ne _ _ _ _ (by omega)]) (fun j _ _ => by rw [zU_ne _ 27 29 _ (by omega), zU_ne _ 27 0 _ (by omega), zU_ne _ 46 0 _ (by omega), zU_off _ 12 14 _ (by omega)])
      · exact a3.fr (fun k _ _ => by rw [zU_ne _ _ _ _ (by omega), zU_ne _ _ _ _ (by omega), zU_ne _ _ _ _ (by omega), zU_ne _ _ _ _ (by omega)]) (fun j _ => by rw [zU_off _ _ _ _ (by omega), zU_off _ _ _ _ (by omega), z27])
      · rw [zU_off _ _ _ _ (by omega), zU_off _ _ _ _ (by omega), z27]; exact a4
      · rw [zU_ne _ 27 29 _ (by omega), zU_ne _ 27 0 _ (by omega), zU_ne _ 46 0 _ (by omega), zU_at, a5, nI_1]
      · rw [zU_at, a6, nI_1]
      · rw [zU_off _ 27 29 _ (by omega), zU_off _ 27 0 _ (by omega), z27, zU_ne _ 27 29 _ (by omega), zU_ne _ 27 0 _ (by omega), zU_ne _ 46 0 _ (by omega), zU_off _ 12 14 _ (by omega)]; exact a7
      · rw [zU_ne _ 27 29 _ (x := 26) (by omega), zU_ne _ 27 0 _ (x := 26) (by omega), zU_ne _ 46 0 _ (x := 26) (by omega), zU_ne _ 12 14 _ (x := 26) (by omega), zU_ne _ 27 29 _ (x := 42) (by omega), zU_ne _ 27 0 _ (x := 42) (by omega), zU_ne _ 46 0 _ (x := 42) (by omega), zU_ne _ 12 14 _ (x := 42) (by omega)]; exact a8
      · rw [zU_off _ 27 29 _ (by omega), zU_at]
      · rw [zU_ne _ 27 29 _ (by omega), zU_ne _ 27 0 _ (by omega), zU_at]
    · -- not constructive
      have e28 : g 27 28 = 0 := o16.mp e16
      obtain ⟨gB, hgB⟩ : ∃ G, G = zU (zU g1 0 2 (g1 0 2 + 1)) 12 15 (nI (cntB (fun i => (!decide (g1 22 i = 0)) != (!decide (g1 25 i = 0))) 8)) := ⟨_, rfl⟩
      rw [← hgB]
      have kB : ∀ k, k ≠ 0 → k ≠ 12 → (k < 20 ∨ 25 < k) → gB k = g k := fun k h1 h2 h3 => by rw [hgB, zU_ne _ _ _ _ h2, zU_ne _ _ _ _ h1, f1 k h3]
      have k27 := kB 27 (by omega) (by omega) (by omega)
      have kB12 : ∀ j, j ≠ 15 → gB 12 j = g 12 j := fun j hj => by rw [hgB, zU_off _ _ _ _ hj, zU_ne _ _ _ _ (by omega), f1 12 (by omega)]
      refine sp_M_react (P := yPof S (fun j => !decide (g 42 j = 0)) (decide (nI t = 0)) (fun i => !decide (jIn x i = 0))) (sn := S.sn) (t := t) (fun q => absurd (q8.mpr q) e) (fun _ q => absurd (by rw [k27] at q; exact q) a4) (fun _ _ q => absurd (by rw [k27]; exact e28) q) (fun _ _ _ => ⟨hmr gB (fun k hk => kB k (by omega) (by omega) (by omega)), hE, fun i _ => rfl, by rw [k27]; exact a6, by omega⟩) (fun _ _ _ gs g3 m1' m2' m3' m4' m5' n1 n2 n3 n4 n5 => ?_) (fun _ _ _ gs gm g3 m1' m2' m3' m4' m5' _ _ _ _ _ _ => absurd ((sol_eq a1 hrg f2 f3 f4 m2' m3' m4').1.mpr m5') f5)
      have ge : ∀ k, k ≠ 27 → k ≠ 43 → k ≠ 44 → k ≠ 45 → g3 k = gB k := fun k h1 h2 h3 h4 => by rw [n1 k h1, m1'.1 k h1 h2 h3 h4, zU_ne _ _ _ _ h1]
      have gj : ∀ j, j ≠ 0 → j ≠ 30 → j ≠ 31 → j ≠ 27 → g3 27 j = g 27 j := fun j h1 h2 h3 h4 => by rw [n2 j h1 h2 h3, m1'.2 j h4, zU_off _ _ _ _ h1, k27]
      have g0 : ∀ k, k ≠ 0 → k ≠ 12 → k ≠ 27 → k ≠ 43 → k ≠ 44 → k ≠ 45 → (k < 20 ∨ 25 < k) → g3 k = g k := fun k h1 h2 h3 h4 h5 h6 h7 => by rw [ge k h3 h4 h5 h6, kB k h1 h2 h7]
      have e12 := ge 12 (by omega) (by omega) (by omega) (by omega)
      refine ⟨0, rfl, ⟨F, hw, ?_, ?_, ?_, ?_, Or.inr ⟨S, t, by omega, a1, ?_, ?_, ?_, ?_, ?_, ?_, ?_⟩⟩, n3, fun q => absurd q (by decide)⟩
      · exact hF.fs (fun k _ _ => g0 k (by omega) (by omega) (by omega) (by omega) (by omega) (by omega) (by omega)) (by rw [g0 1 (by omega) (by omega) (by omega) (by omega) (by omega) (by omega) (by omega)])
      · exact hM.fr (fun k _ _ => g0 k (by omega) (by omega) (by omega) (by omega) (by omega) (by omega) (by omega)) (gj 1 (by omega) (by omega) (by omega) (by omega))
      · rw [ge 0 (by omega) (by omega) (by omega) (by omega), n5, m1'.2 31 (by omega), zU_off _ _ _ _ (by omega), k27, hgB, zU_ne _ _ _ _ (by omega), zU_at, f1 0 (by omega), h4]
      · rw [e12, n4, hgB, zU_at, (sol_eq a1 hrg f2 f3 f4 m2' m3' m4').2.1]
      · exact a2.fr (fun k _ _ => g0 k (by omega) (by omega) (by omega) (by omega) (by omega) (by omega) (by omega)) (fun j _ _ => by rw [e12]; exact kB12 j (by omega))
      · exact a3.fr (fun k _ _ => g0 k (by omega) (by omega) (by omega) (by omega) (by omega) (by omega) (by omega)) (fun j hj => gj j (by omega) (by omega) (by omega) (by omega))
      · rw [gj 12 (by omega) (by omega) (by omega) (by omega)]; exact a4
      · rw [e12, kB12 14 (by omega)]; exact a5
      · rw [gj 29 (by omega) (by omega) (by omega) (by omega)]; exact a6
      · rw [e12, kB12 16 (by omega), gj 28 (by omega) (by omega) (by omega) (by omega)]; exact a7
      · rw [g0 26 (by omega) (by omega) (by omega) (by omega) (by omega) (by omega) (by omega), g0 42 (by omega) (by omega) (by omega) (by omega) (by omega) (by omega) (by omega)]; exact a8
    · -- an instant
      have e28 : g 27 28 = 0 := o16.mp e16
      obtain ⟨gB, hgB⟩ : ∃ G, G = zU g2 46 0 (jMask (fun i => !decide (g1 22 i = 0)) 8) := ⟨_, rfl⟩
      rw [← hgB]
      have kB : ∀ k, k ≠ 12 → k ≠ 26 → k ≠ 46 → (k < 20 ∨ 25 < k) → gB k = g k := fun k h1 h2 h3 h4 => by rw [hgB, zU_ne _ _ _ _ h3, b1.1 k h2 h1, f1 k h4]
      have k27 := kB 27 (by omega) (by omega) (by omega) (by omega)
      have kB12 : ∀ j, j ≠ 14 → j ≠ 16 → gB 12 j = g 12 j := fun j hj h2 => by rw [hgB, zU_ne _ _ _ _ (by omega), b1.2 j hj h2, f1 12 (by omega)]
      refine sp_M_react (P := yPof S (fun j => !decide (g 42 j = 0)) (decide (nI t = 0)) (fun i => !decide (jIn x i = 0))) (sn := S.sn) (t := t) (fun q => absurd (q8.mpr q) e) (fun _ q => absurd (by rw [k27] at q; exact q) a4) (fun _ _ q => absurd (by rw [k27]; exact e28) q) (fun _ _ _ => ⟨hmr gB (fun k hk => kB k (by omega) (by omega) (by omega) (by omega)), hE, fun i _ => rfl, by rw [k27]; exact a6, by omega⟩) (fun _ _ _ gs g3 m1' m2' m3' m4' m5' _ _ _ _ _ => absurd ((sol_eq a1 hrg f2 f3 f4 m2' m3' m4').1.mp f5) m5') (fun _ _ _ gs gm g3 m1' m2' m3' m4' m5' u1 u2 u3 n1 n2 n3 => ?_)
      obtain ⟨-, -, sm, sr, so⟩ := sol_eq a1 hrg f2 f3 f4 m2' m3' m4'
      have ge : ∀ k, k ≠ 27 → k ≠ 42 → k ≠ 43 → k ≠ 44 → k ≠ 45 → g3 k = gB k := fun k h1 h0 h2 h3 h4 => by rw [n1 k h1, u1.1 k h0 h1, m1'.1 k h1 h2 h3 h4, zU_ne _ _ _ _ h1]
      have gj : ∀ j, j ≠ 0 → j ≠ 27 → j ≠ 28 → j ≠ 29 → g3 27 j = g 27 j := fun j h1 h2 h3 h4 => by rw [n2 j h4, u1.2 j h3, m1'.2 j h2, zU_off _ _ _ _ h1, k27]
      have g0 : ∀ k, k ≠ 12 → k ≠ 26 → k ≠ 46 → k ≠ 27 → k ≠ 42 → k ≠ 43 → k ≠ 44 → k ≠ 45 → (k < 20 ∨ 25 < k) → g3 k = g k := fun k h1 h2 h3 h4 h5 h6 h7 h8 h9 => by rw [ge k h4 h5 h6 h7 h8, kB k h1 h2 h3 h9]
      have e12 := ge 12 (by omega) (by omega) (by omega) (by omega) (by omega)
      refine ⟨_, rfl, ⟨F, hw, ?_, ?_, ?_, ?_, Or.inr ⟨S, t + 1, by omega, a1, ?_, ?_, ?_, ?_, ?_, ?_, fun j hj => ?_⟩⟩, ?_, fun _ => ?_⟩
      · exact hF.fs (fun k _ _ => g0 k (by omega) (by omega) (by omega) (by omega) (by omega) (by omega) (by omega) (by omega) (by omega)) (by rw [g0 1 (by omega) (by omega) (by omega) (by omega) (by omega) (by omega) (by omega) (by omega) (by omega)])
      · exact hM.fr (fun k _ _ => g0 k (by omega) (by omega) (by omega) (by omega) (by omega) (by omega) (by omega) (by omega) (by omega)) (gj 1 (by omega) (by omega) (by omega) (by omega))
      · rw [g0 0 (by omega) (by omega) (by omega) (by omega) (by omega) (by omega) (by omega) (by omega) (by omega), gj 31 (by omega) (by omega) (by omega) (by omega)]; exact h4
      · rw [e12, kB12 15 (by omega) (by omega), gj 30 (by omega) (by omega) (by omega) (by omega)]; exact h5
      · exact a2.fr (fun k _ _ => g0 k (by omega) (by omega) (by omega) (by omega) (by omega) (by omega) (by omega) (by omega) (by omega)) (fun j _ _ => by rw [e12]; exact kB12 j (by omega) (by omega))
      · refine a3.fr (fun k _ _ => g0 k (by omega) (by omega) (by omega) (by omega) (by omega) (by omega) (by omega) (by omega) (by omega)) (fun j hj => gj j (by omega) (by omega) (by omega) (by omega))
      · rw [gj 12 (by omega) (by omega) (by omega) (by omega)]; exact a4
      · rw [e12, hgB, zU_ne _ _ _ _ (by omega), b4, f1 12 (by omega), a5, nI_1]
      · rw [n3, u1.2 29 (by omega), m1'.2 29 (by omega), zU_off _ _ _ _ (by omega), k27, a6, nI_1]
      · rw [e12, hgB, zU_ne _ _ _ _ (by omega), b3, n2 28 (by omega), u3, so]
        split
        · rw [if_neg (by decide)]
        · rw [if_pos rfl]
      · have h60 := a1.2.2.1
        have r1 := b2 j (by omega)
        have r2 := u2 j (by omega)
        have r3 := sr j hj
        rw [ge 26 (by omega) (by omega) (by omega) (by omega) (by omega), hgB, zU_ne _ _ _ _ (by omega), n1 42 (by omega)]
        have r4 : (!decide (g2 26 j = 0)) = (!decide (gm 42 j = 0)) := by rw [r1, r2]; exact r3
        by_cases w : g2 26 j = 0
        · by_cases w2 : gm 42 j = 0
          · exact ⟨fun _ => w2, fun _ => w⟩
          · simp [w, w2] at r4
        · by_cases w2 : gm 42 j = 0
          · simp [w, w2] at r4
          · exact ⟨fun q => absurd q w, fun q => absurd q w2⟩
      · rw [n2 0 (by omega), u1.2 0 (by omega), m1'.2 0 (by omega), zU_at]
      · rw [ge 46 (by omega) (by omega) (by omega) (by omega) (by omega), hgB, zU_at, sm]
end PRE
