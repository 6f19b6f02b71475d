/-! the reference's set as an update; where one of its passes stands -/
def xm (g : zM) (P : yP) : yX := (m1 g P, m2 g P)
def vsA (P : yP) : List (Nat × Nat) := vsW P.n ++ (List.range P.ns).map fun i => (0, i)
def mFr (g0 g : zM) : Prop := (∀ k, k ≠ 27 → k ≠ 43 → k ≠ 44 → k ≠ 45 → g k = g0 k) ∧ ∀ j, j ≠ 27 → g 27 j = g0 27 j
theorem mFr.mr {g0 g : zM} {P : yP} {sn : Nat → Nat} (h : mFr g0 g) (hM : zMr g0 P sn) : zMr g P sn := by
  obtain ⟨p1, p2, p3, p4, p5, p6, p7, p8, p9⟩ := hM
  have e := fun k (h1 : k ≠ 27) (h2 : k ≠ 43) (h3 : k ≠ 44) (h4 : k ≠ 45) => h.1 k h1 h2 h3 h4
  refine ⟨by rw [h.2 13 (by omega)]; exact p1, p2, p3, by rw [h.2 22 (by omega)]; exact p4, p5, p6, fun c hc => ?_, fun i hi => by rw [e 42 (by omega) (by omega) (by omega) (by omega)]; exact p8 i hi, by rw [h.2 29 (by omega)]; exact p9⟩
  have := p7 c hc
  unfold zMc1 at this ⊢
  rw [e 35 (by omega) (by omega) (by omega) (by omega), e 28 (by omega) (by omega) (by omega) (by omega), e 41 (by omega) (by omega) (by omega) (by omega), e 29 (by omega) (by omega) (by omega) (by omega), e 40 (by omega) (by omega) (by omega) (by omega), e 36 (by omega) (by omega) (by omega) (by omega), e 37 (by omega) (by omega) (by omega) (by omega), e 38 (by omega) (by omega) (by omega) (by omega), e 39 (by omega) (by omega) (by omega) (by omega)]
  exact this
def mAt (P : yP) (g0 : zM) (D : Nat × Nat → Prop) (g : zM) : Prop :=
  mFr g0 g ∧ z3 g P ∧ yCh (eEq P) (xm g P) ∧ ((g 27 27 = 0 ∧ g 43 = g0 43 ∧ g 44 = g0 44 ∧ ∀ u, D u → (m1 g0 P u = eEq P u (m1 g0 P) (m2 g0 P) ∧ m2 g0 P u = eEq P u (m2 g0 P) (m1 g0 P))) ∨ (g 27 27 = 1 ∧ yCnt (vsA P) (xm g P) < yCnt (vsA P) (xm g0 P)))
theorem mAt.weak {P : yP} {g0 g : zM} {D D' : Nat × Nat → Prop} (h : mAt P g0 D g) (hD : ∀ u, D' u → D u) : mAt P g0 D' g := by
  obtain ⟨h1, h2, h3, h4⟩ := h
  refine ⟨h1, h2, h3, ?_⟩
  rcases h4 with ⟨a, b, c, d⟩ | h4
  · exact Or.inl ⟨a, b, c, fun u hu => d u (hD u hu)⟩
  · exact Or.inr h4
theorem m_congr {g g' : zM} {P : yP} (h1 : g' 43 = g 43) (h2 : g' 44 = g 44) : m1 g' P = m1 g P ∧ m2 g' P = m2 g P := by
  constructor <;> funext v <;> obtain ⟨x, j⟩ := v <;> cases x <;> simp only [m1, m2, h1, h2]
theorem mset {P : yP} {g0 g : zM} {D : Nat × Nat → Prop} {c k : Nat} {v : Int32} (hat : mAt P g0 D g) (hc : c < P.n) (hk : k < 11) (hv : v3 v (eEq P (c + 1, k) (m1 g P) (m2 g P)) (eEq P (c + 1, k) (m2 g P) (m1 g P))) :
    mAt P g0 (fun u => D u ∨ u = (c + 1, k)) (zU (zU g 27 27 (if g 27 27 = 0 ∧ g 43 (11 * c + k) = v then 0 else 1)) 43 (11 * c + k) v) := by
  obtain ⟨hf, h3, hch, hor⟩ := hat
  have h27 : g 27 27 = 0 ∨ g 27 27 = 1 := by rcases hor with h | h <;> simp [h.1]
  obtain ⟨hv1, hv2, hv3⟩ := hv
  have e43 : zU (zU g 27 27 (if g 27 27 = 0 ∧ g 43 (11 * c + k) = v then 0 else 1)) 43 (11 * c + k) v 43 = upd (g 43) (11 * c + k) v := by
    rw [zU_self, zU_ne _ 27 27 _ (x := 43) (by omega)]
  have e44 : zU (zU g 27 27 (if g 27 27 = 0 ∧ g 43 (11 * c + k) = v then 0 else 1)) 43 (11 * c + k) v 44 = g 44 := by
    rw [zU_ne _ 43 _ _ (x := 44) (by omega), zU_ne _ 27 27 _ (x := 44) (by omega)]
  have e27 : zU (zU g 27 27 (if g 27 27 = 0 ∧ g 43 (11 * c + k) = v then 0 else 1)) 43 (11 * c + k) v 27 27 = (if g 27 27 = 0 ∧ g 43 (11 * c + k) = v then 0 else 1) := by
    rw [zU_ne _ 43 _ _ (x := 27) (by omega), zU_at]
  have e27' : ∀ j, j ≠ 27 → zU (zU g 27 27 (if g 27 27 = 0 ∧ g 43 (11 * c + k) = v then 0 else 1)) 43 (11 * c + k) v 27 j = g 27 j := by
    intro j hj
    rw [zU_ne _ 43 _ _ (x := 27) (by omega), zU_off _ 27 27 _ hj]
  have eo : ∀ x, x ≠ 27 → x ≠ 43 → zU (zU g 27 27 (if g 27 27 = 0 ∧ g 43 (11 * c + k) = v then 0 else 1)) 43 (11 * c + k) v x = g x := by
    intro x h1 h2
    rw [zU_ne _ 43 _ _ h2, zU_ne _ 27 27 _ h1]
  generalize zU (zU g 27 27 (if g 27 27 = 0 ∧ g 43 (11 * c + k) = v then 0 else 1)) 43 (11 * c + k) v = g' at *
  have hix : ∀ c' j, j < 11 → (11 * c' + j = 11 * c + k ↔ c' = c ∧ j = k) := by intro c' j hj; omega
  have r1 : ∀ c' j, j < 11 → g' 43 (11 * c' + j) = if c' = c ∧ j = k then v else g 43 (11 * c' + j) := by
    intro c' j hj
    rw [e43]
    simp only [upd, hix c' j hj]
  have w1 : ∀ u : Nat × Nat, m1 g' P u = if u = (c + 1, k) then decide (v = 1) else m1 g P u := by
    rintro ⟨x, j⟩
    cases x with
    | zero => simp only [m1, e44]; simp
    | succ c' =>
      by_cases hj : j < 11
      · simp only [m1]
        rw [r1 c' j hj]
        by_cases e : c' = c ∧ j = k
        · obtain ⟨rfl, rfl⟩ := e; simp [hc, hj]
        · rw [if_neg e, if_neg (fun q => e (by cases q; exact ⟨rfl, rfl⟩))]
      · have : ¬ (c' + 1, j) = (c + 1, k) := fun q => by cases q; exact hj hk
        rw [if_neg this]; simp [m1, hj]
  have w2 : ∀ u : Nat × Nat, m2 g' P u = if u = (c + 1, k) then !decide (v = 2) else m2 g P u := by
    rintro ⟨x, j⟩
    cases x with
    | zero => simp only [m2, e44]; simp
    | succ c' =>
      by_cases hj : j < 11
      · simp only [m2]
        rw [r1 c' j hj]
        by_cases e : c' = c ∧ j = k
        · obtain ⟨rfl, rfl⟩ := e; simp [hc, hj]
        · rw [if_neg e, if_neg (fun q => e (by cases q; exact ⟨rfl, rfl⟩))]
      · have : ¬ (c' + 1, j) = (c + 1, k) := fun q => by cases q; exact hj hk
        rw [if_neg this]; simp [m2, hj]
  have hu : yUpd (eEq P) (xm g P) (xm g' P) := by
    refine ⟨fun u => ?_, fun u => ?_⟩
    · show m1 g' P u = _ ∨ m1 g' P u = _
      rw [w1]
      by_cases e : u = (c + 1, k)
      · rw [if_pos e, hv2, e]; exact Or.inr rfl
      · rw [if_neg e]; exact Or.inl rfl
    · show m2 g' P u = _ ∨ m2 g' P u = _
      rw [w2]
      by_cases e : u = (c + 1, k)
      · rw [if_pos e, hv3, e]; exact Or.inr rfl
      · rw [if_neg e]; exact Or.inl rfl
  have hle := hu.le hch.1
  refine ⟨⟨fun x h1 h2 h4 h5 => by rw [eo x h1 h2]; exact hf.1 x h1 h2 h4 h5, fun j hj => by rw [e27' j hj]; exact hf.2 j hj⟩, ⟨fun c' hc' j hj => ?_, fun i hi => by rw [e44]; exact h3.2 i hi⟩, hu.ch (eEq_mono P) hch, ?_⟩
  · rw [r1 c' j hj]
    split
    · exact hv1
    · exact h3.1 c' hc' j hj
  · by_cases hs : g 43 (11 * c + k) = v
    · have eq43 : g' 43 = g 43 := by rw [e43]; funext y; simp only [upd]; split; (rename_i e; rw [e, hs]); rfl
      obtain ⟨mm1, mm2⟩ := m_congr (P := P) eq43 e44
      rcases hor with ⟨a, b, d, dd⟩ | ⟨a, b⟩
      · left
        refine ⟨by rw [e27, if_pos ⟨a, hs⟩], by rw [eq43, b], by rw [e44, d], fun u hu' => ?_⟩
        rcases hu' with h | rfl
        · exact dd u h
        · obtain ⟨n1, n2⟩ := m_congr (P := P) b d
          have s1 := w1 (c + 1, k)
          have s2 := w2 (c + 1, k)
          rw [if_pos rfl, mm1, n1, hv2, n1, n2] at s1
          rw [if_pos rfl, mm2, n2, hv3, n1, n2] at s2
          exact ⟨s1, s2⟩
      · right
        refine ⟨by rw [e27, if_neg (fun q => by rw [a] at q; exact absurd q.1 (by decide))], ?_⟩
        show yCnt (vsA P) (m1 g' P, m2 g' P) < _
        rw [mm1, mm2]; exact b
    · right
      refine ⟨by rw [e27, if_neg (fun q => hs q.2)], ?_⟩
      have hlt : yCnt (vsA P) (xm g' P) < yCnt (vsA P) (xm g P) := by
        refine yCnt_lt hle (vsA P) (c + 1, k) (List.mem_append_left _ (vsW_mem hc hk)) ?_
        show m1 g' P (c + 1, k) ≠ m1 g P (c + 1, k) ∨ m2 g' P (c + 1, k) ≠ m2 g P (c + 1, k)
        rw [w1, w2, if_pos rfl, if_pos rfl]
        have o1 : m1 g P (c + 1, k) = decide (g 43 (11 * c + k) = 1) := by simp [m1, hc, hk]
        have o2 : m2 g P (c + 1, k) = !decide (g 43 (11 * c + k) = 2) := by simp [m2, hc, hk]
        rw [o1, o2]
        rcases hv1 with rfl | rfl | rfl <;> rcases h3.1 c hc k hk with e | e | e <;> rw [e] at hs ⊢ <;> first | exact absurd rfl hs | decide
      rcases hor with ⟨a, b, d, dd⟩ | ⟨a, b⟩
      · obtain ⟨n1, n2⟩ := m_congr (P := P) b d
        have : xm g P = xm g0 P := by unfold xm; rw [n1, n2]
        rw [this] at hlt; exact hlt
      · exact Nat.lt_trans hlt b
