/-! a step as an update of the two rails; a pass -/
def xs (g : zM) (P : yP) : yX := (zr g P 20, zr g P 23)
/-- nothing above the eleven wires -/
def zHi (g : zM) (P : yP) : Prop := ∀ c, c < P.n → ∀ i, 11 ≤ i → i < 32 → bt (g 21 c) i = false ∧ bt (g 24 c) i = false
def vsW (n : Nat) : List (Nat × Nat) := (List.range n).flatMap fun c => (List.range 11).map fun j => (c + 1, j)
theorem vsW_mem {n c j : Nat} (hc : c < n) (hj : j < 11) : (c + 1, j) ∈ vsW n :=
  List.mem_flatMap.mpr ⟨c, List.mem_range.mpr hc, List.mem_map.mpr ⟨j, List.mem_range.mpr hj, rfl⟩⟩
theorem vsW_len (n : Nat) : (vsW n).length = 11 * n := by
  unfold vsW
  induction n with
  | zero => rfl
  | succ n ih => rw [List.range_succ (n := n), List.flatMap_append, List.length_append, ih]; simp; omega
theorem zU_same {g : zM} {a j : Nat} {v : Int32} (h : v = g a j) : zU g a j v = g := by
  funext x y
  simp only [zU]
  split
  · rename_i e
    split
    · rename_i e2; rw [e, e2, h]
    · rfl
  · rfl
theorem zbi_inv : ∀ i, i < 11 → ∃ j, j < 11 ∧ zbi j = i := by decide
theorem zbi_lt : ∀ j, j < 11 → zbi j < 11 := by decide
/-- the rows behind a store in a row's wires -/
theorem zr_self {g : zM} {P : yP} {a c : Nat} {v : Int32} (w : Nat × Nat) : zr (zU g (a + 1) c v) P a w = if w.1 = c + 1 then decide (c < P.n) && decide (w.2 < 11) && bt v (zbi w.2) else zr g P a w := by
  obtain ⟨x, j⟩ := w
  cases x with
  | zero => simp only [zr]; rw [zU_ne g (a + 1) c v (x := a + 2) (by omega)]; simp
  | succ c' =>
    by_cases e : c' = c
    · subst e
      simp [zr, zU_at]
    · simp only [zr]
      rw [zU_off g (a + 1) c v e]
      simp [e]
theorem zr_other {g : zM} {P : yP} {a b c : Nat} {v : Int32} (h1 : b + 1 ≠ a) (h2 : b + 2 ≠ a) : zr (zU g a c v) P b = zr g P b := by
  funext w
  obtain ⟨x, j⟩ := w
  cases x with
  | zero => simp only [zr]; rw [zU_ne g a c v h2]
  | succ c' => simp only [zr]; rw [zU_ne g a c v h1]
theorem eEq_go {P : yP} {r o : yR} {c : Nat} (hc : c < P.n) : eEq P (c + 1, 0) r o = eGo P r o c := by simp [eEq, hc]
theorem eEq_re {P : yP} {r o : yR} {c : Nat} (hc : c < P.n) : eEq P (c + 1, 1) r o = eRes P r o c := by simp [eEq, hc]
theorem eEq_su {P : yP} {r o : yR} {c : Nat} (hc : c < P.n) : eEq P (c + 1, 2) r o = eSusp P r c := by simp [eEq, hc]
theorem eEq_ki {P : yP} {r o : yR} {c : Nat} (hc : c < P.n) : eEq P (c + 1, 3) r o = eKill P r c := by simp [eEq, hc]
theorem eEq_se {P : yP} {r o : yR} {c : Nat} (hc : c < P.n) : eEq P (c + 1, 4) r o = eSel P r c := by simp [eEq, hc]
theorem eEq_k {P : yP} {r o : yR} {c i : Nat} (hc : c < P.n) (hi : i < 6) : eEq P (c + 1, 5 + i) r o = eK P r o c i := by
  simp only [eEq, hc, if_true]
  rw [if_neg (by omega), if_neg (by omega), if_neg (by omega), if_neg (by omega), if_neg (by omega), if_pos (by omega)]
  congr 1; omega
/-- the new wires of a step, by variables: those of the step are their equations', the others as they were -/
def zNew (P : yP) (r o : yR) (w : Int32) (c : Nat) (inn : Bool) (v : Int32) : Prop :=
  (∀ j, j < 11 → bt v (zbi j) = if (decide (j < 4) == inn) = true then eEq P (c + 1, j) r o else bt w (zbi j)) ∧ ∀ i, 11 ≤ i → i < 32 → bt v i = false
theorem zNew_in {P : yP} {r o : yR} {w u : Int32} {c : Nat} (hc : c < P.n) (hu : zcB u (eGo P r o c) (eRes P r o c) (eSusp P r c) (eKill P r c)) : zNew P r o w c true ((w &&& 127) ||| u) := by
  refine ⟨fun j hj => ?_, fun i h1 h2 => ?_⟩
  · have hb := zbi_lt j hj
    rw [b_or, b_and, bm_127 _ (by omega), hu _ (by omega)]
    have : j = 0 ∨ j = 1 ∨ j = 2 ∨ j = 3 ∨ 4 ≤ j := by omega
    rcases this with rfl | rfl | rfl | rfl | h4
    · rw [eEq_go hc]; simp [zbi]
    · rw [eEq_re hc]; simp [zbi]
    · rw [eEq_su hc]; simp [zbi]
    · rw [eEq_ki hc]; simp [zbi]
    · have hz : zbi j < 7 := by unfold zbi; rw [if_neg (by omega)]; split <;> omega
      simp [show ¬ j < 4 by omega, hz, show ¬ zbi j = 7 by omega, show ¬ zbi j = 8 by omega, show ¬ zbi j = 9 by omega, show ¬ zbi j = 10 by omega]
  · rw [b_or, b_and, bm_127 i h2, hu i h2]
    simp [show ¬ i < 7 by omega, show ¬ i = 7 by omega, show ¬ i = 8 by omega, show ¬ i = 9 by omega, show ¬ i = 10 by omega]
theorem zNew_out {P : yP} {r o : yR} {w u : Int32} {c : Nat} (hc : c < P.n) (hu : zgB u (fun i => eK P r o c i) (eSel P r c)) : zNew P r o w c false ((w &&& 1920) ||| u) := by
  refine ⟨fun j hj => ?_, fun i h1 h2 => ?_⟩
  · have hb := zbi_lt j hj
    rw [b_or, b_and, bm_1920 _ (by omega), hu _ (by omega)]
    by_cases h4 : j < 4
    · have hz : zbi j = j + 7 := by unfold zbi; rw [if_pos h4]
      rw [hz]
      simp [h4, show 7 ≤ j + 7 by omega, show j + 7 < 11 by omega, show ¬ j + 7 < 6 by omega]
    · by_cases h5 : j = 4
      · subst h5
        rw [eEq_se hc]; simp [zbi]
      · have hz : zbi j = j - 5 := by unfold zbi; rw [if_neg h4, if_neg h5]
        obtain ⟨i, rfl⟩ : ∃ i, j = 5 + i := ⟨j - 5, by omega⟩
        rw [hz, eEq_k hc (by omega)]
        simp [h4, show i < 6 by omega, show ¬ 7 ≤ i by omega]
  · rw [b_or, b_and, bm_1920 i h2, hu i h2]
    simp [show ¬ i < 11 by omega, show ¬ i < 6 by omega, show ¬ i = 6 by omega]
/-- the other row -/
def zot (a : Nat) : Nat := if a = 20 then 23 else 20
/-- one step of one row -/
theorem zstep {g : zM} {P : yP} {a c : Nat} {inn : Bool} {v : Int32} (ha : a = 20 ∨ a = 23) (hc : c < P.n) (hi : zHi g P) (hch : yCh (eEq P) (xs g P)) (hv : zNew P (zr g P a) (zr g P (zot a)) (g (a + 1) c) c inn v) :
    zHi (zU g (a + 1) c v) P ∧ yCh (eEq P) (xs (zU g (a + 1) c v) P) ∧ yCnt (vsW P.n) (xs (zU g (a + 1) c v) P) ≤ yCnt (vsW P.n) (xs g P) ∧
    (v = g (a + 1) c → ∀ j, j < 11 → (decide (j < 4) == inn) = true → zr g P a (c + 1, j) = eEq P (c + 1, j) (zr g P a) (zr g P (zot a))) ∧
    (v ≠ g (a + 1) c → yCnt (vsW P.n) (xs (zU g (a + 1) c v) P) < yCnt (vsW P.n) (xs g P)) := by
  have hself : ∀ w : Nat × Nat, zr (zU g (a + 1) c v) P a w = zr g P a w ∨ zr (zU g (a + 1) c v) P a w = eEq P w (zr g P a) (zr g P (zot a)) := by
    intro w
    rw [zr_self]
    split
    · rename_i e
      obtain ⟨x, j⟩ := w
      dsimp only at e ⊢
      subst e
      by_cases hj : j < 11
      · rw [hv.1 j hj]
        split
        · right; simp [hc, hj]
        · left; simp [zr, hc, hj]
      · left; simp [zr, hj]
    · exact Or.inl rfl
  have hu : yUpd (eEq P) (xs g P) (xs (zU g (a + 1) c v) P) := by
    rcases ha with rfl | rfl
    · refine ⟨hself, fun w => Or.inl ?_⟩
      show zr (zU g 21 c v) P 23 w = _
      rw [zr_other (by omega) (by omega)]; rfl
    · refine ⟨fun w => Or.inl ?_, hself⟩
      show zr (zU g 24 c v) P 20 w = _
      rw [zr_other (by omega) (by omega)]; rfl
  have hle := hu.le hch.1
  refine ⟨?_, hu.ch (eEq_mono P) hch, yCnt_le hle _, ?_, ?_⟩
  · intro c' hc' i h1 h2
    have h3 := hi c' hc' i h1 h2
    by_cases e : c' = c
    · subst e
      rcases ha with rfl | rfl
      · rw [zU_at, zU_ne g 21 c' v (x := 24) (by omega)]; exact ⟨hv.2 i h1 h2, h3.2⟩
      · rw [zU_at, zU_ne g 24 c' v (x := 21) (by omega)]; exact ⟨h3.1, hv.2 i h1 h2⟩
    · rcases ha with rfl | rfl
      · rw [zU_off g 21 c v e, zU_ne g 21 c v (x := 24) (by omega)]; exact h3
      · rw [zU_off g 24 c v e, zU_ne g 24 c v (x := 21) (by omega)]; exact h3
  · intro he j hj hjn
    have h1 := hv.1 j hj
    rw [if_pos hjn, he] at h1
    rw [← h1]
    simp [zr, hc, hj]
  · intro hne
    have hb : ∃ i, i < 11 ∧ bt v i ≠ bt (g (a + 1) c) i := by
      refine Classical.byContradiction fun hn => hne (b_ext fun i hi32 => ?_)
      by_cases h11 : i < 11
      · exact Classical.byContradiction fun h => hn ⟨i, h11, h⟩
      · rw [hv.2 i (by omega) hi32]
        rcases ha with rfl | rfl
        · exact (hi c hc i (by omega) hi32).1.symm
        · exact (hi c hc i (by omega) hi32).2.symm
    obtain ⟨i, h11, hd⟩ := hb
    obtain ⟨j, hj, rfl⟩ := zbi_inv i h11
    refine yCnt_lt hle (vsW P.n) (c + 1, j) (vsW_mem hc hj) ?_
    have hv2 : zr (zU g (a + 1) c v) P a (c + 1, j) ≠ zr g P a (c + 1, j) := by
      rw [zr_self]
      simp only [if_true, hc, hj, decide_true, Bool.true_and]
      simp only [zr, hc, hj, decide_true, Bool.true_and]
      exact hd
    rcases ha with rfl | rfl
    · exact Or.inl hv2
    · exact Or.inr hv2
