/-! the relation is kept -/
section REL
/-- cells that the relation does not speak of may change -/
def rFr (g G : zM) : Prop := (∀ k, (k ≤ 18 ∨ k = 26 ∨ (28 ≤ k ∧ k ≤ 33) ∨ (35 ≤ k ∧ k ≤ 42)) → G k = g k) ∧ ∀ j, j ≠ 0 → j ≠ 8 → j ≠ 10 → j ≠ 11 → j ≠ 27 → G 27 j = g 27 j
theorem rFr.rf (g : zM) : rFr g g := ⟨fun _ _ => rfl, fun _ _ _ _ _ _ => rfl⟩
theorem rFr.tr {g G H : zM} (h : rFr g G) (h2 : rFr G H) : rFr g H := ⟨fun k hk => (h2.1 k hk).trans (h.1 k hk), fun j a b c d e => (h2.2 j a b c d e).trans (h.2 j a b c d e)⟩
theorem rFr.thr (g : zM) (v : Int32) : rFr g (zU g 27 0 v) := ⟨fun k hk => zU_ne _ _ _ _ (by omega), fun j a _ _ _ _ => zU_off _ _ _ _ a⟩
theorem rFr.out (g : zM) (v : Int32) : rFr g (zU g 46 0 v) := ⟨fun k hk => zU_ne _ _ _ _ (by omega), fun j _ _ _ _ _ => by rw [zU_ne _ _ _ _ (by omega)]⟩
theorem rNo.fr {g G : zM} (h : rNo g) (f : rFr g G) : rNo G := by
  obtain ⟨f1, f2⟩ := f
  obtain ⟨a1, a2, a3, a4, a5, a6, a7, a8⟩ := h
  have e := f1 12 (by omega)
  exact ⟨by rw [e]; exact a1, by rw [e]; exact a2, by rw [e]; exact a3, by rw [e]; exact a4, by rw [f2 12 (by omega) (by omega) (by omega) (by omega) (by omega)]; exact a5, by rw [f2 13 (by omega) (by omega) (by omega) (by omega) (by omega)]; exact a6, by rw [f2 21 (by omega) (by omega) (by omega) (by omega) (by omega)]; exact a7, by rw [f2 29 (by omega) (by omega) (by omega) (by omega) (by omega)]; exact a8⟩
theorem rPr.fr {F : yF} {S : yS} {t : Nat} {g G : zM} (h : rPr F S t g) (f : rFr g G) : rPr F S t G := by
  obtain ⟨f1, f2⟩ := f
  obtain ⟨a1, a2, a3, a4, a5, a6, a7, a8⟩ := h
  have e := f1 12 (by omega)
  refine ⟨a1, a2.fr (fun k h1 h2 => f1 k (by omega)) (fun j _ _ => by rw [e]), a3.fr (fun k h1 h2 => f1 k (by omega)) (fun j hj => f2 j (by omega) (by omega) (by omega) (by omega) (by omega)), ?_, by rw [e]; exact a5, ?_, ?_, ?_⟩
  · rw [f2 12 (by omega) (by omega) (by omega) (by omega) (by omega)]; exact a4
  · rw [f2 29 (by omega) (by omega) (by omega) (by omega) (by omega)]; exact a6
  · rw [e, f2 28 (by omega) (by omega) (by omega) (by omega) (by omega)]; exact a7
  · rw [f1 26 (by omega), f1 42 (by omega)]; exact a8
theorem rRel.fr {N N' : Nat} {g G : zM} (h : rRel N g) (f : rFr g G) (hN : N ≤ N') : rRel N' G := by
  obtain ⟨F, h1, h2, h3, h4, h5, h6⟩ := h
  have e1 := f.1 1 (by omega)
  refine ⟨F, h1, h2.fs (fun k a b => f.1 k (by omega)) (by rw [e1]), h3.fr (fun k a b => f.1 k (by omega)) (f.2 1 (by omega) (by omega) (by omega) (by omega) (by omega)), ?_, ?_, ?_⟩
  · rw [f.1 0 (by omega), f.2 31 (by omega) (by omega) (by omega) (by omega) (by omega)]; exact h4
  · rw [f.1 12 (by omega), f.2 30 (by omega) (by omega) (by omega) (by omega) (by omega)]; exact h5
  · rcases h6 with h6 | ⟨S, t, ht, h6⟩
    · exact Or.inl (h6.fr f)
    · exact Or.inr ⟨S, t, by omega, h6.fr f⟩
/-- a statement is added on both sides -/
theorem rRel_add {N N' : Nat} {F : yF} {g G : zM} {k z p q : Nat} (hN : N ≤ N') (hw : yFw (F.add k z p q)) (h4 : g 0 2 = g 27 31) (h5 : g 12 15 = g 27 30) (h6 : rNo g ∨ ∃ S t, t ≤ N ∧ rPr F S t g)
    (c1 : zFcl G (F.add k z p q)) (c2 : zFre G (F.add k z p q)) (f1 : ∀ x, (x < 1 ∨ (11 < x ∧ x < 27) ∨ (33 < x ∧ x < 46)) → G x = g x) (f2 : ∀ j, j ≠ 0 → j ≠ 1 → G 27 j = g 27 j) : rRel N' G := by
  have e := f1 12 (by omega)
  have r : ∀ j, j ≠ 0 → j ≠ 1 → G 27 j = g 27 j := f2
  refine ⟨F.add k z p q, hw, c1, c2, by rw [f1 0 (by omega), r 31 (by omega) (by omega)]; exact h4, by rw [e, r 30 (by omega) (by omega)]; exact h5, ?_⟩
  rcases h6 with h6 | ⟨S, t, ht, h6⟩
  · obtain ⟨a1, a2, a3, a4, a5, a6, a7, a8⟩ := h6
    exact Or.inl ⟨by rw [e]; exact a1, by rw [e]; exact a2, by rw [e]; exact a3, by rw [e]; exact a4, by rw [r 12 (by omega) (by omega)]; exact a5, by rw [r 13 (by omega) (by omega)]; exact a6, by rw [r 21 (by omega) (by omega)]; exact a7, by rw [r 29 (by omega) (by omega)]; exact a8⟩
  · obtain ⟨a1, a2, a3, a4, a5, a6, a7, a8⟩ := h6
    refine Or.inr ⟨S, t, by omega, yOk_add a1, a2.fr (fun x _ _ => f1 x (by omega)) (fun j _ _ => by rw [e]), ?_, by rw [r 12 (by omega) (by omega)]; exact a4, by rw [e]; exact a5, by rw [r 29 (by omega) (by omega)]; exact a6, by rw [e, r 28 (by omega) (by omega)]; exact a7, by rw [f1 26 (by omega), f1 42 (by omega)]; exact a8⟩
    exact zBm_add a1 (a3.fr (fun x _ _ => f1 x (by omega)) (fun j hj => r j (by omega) (by omega)))
/-- isRefused says what the reference's checking pass says -/
theorem ref_iff {F : yF} {g : zM} {i : Nat} (hw : yFw F) (hc : zFcl g F) (hi : i < F.n) : (¬ g 11 i = 0 ∨ 0 < g 10 i ∨ 300 < g 8 i ∨ 60 < g 9 i) ↔ ¬ yOkc F i 0 0 0 := by
  obtain ⟨-, hr⟩ := hc
  obtain ⟨-, -, -, -, -, -, e8, e9, e10, e11⟩ := hr i hi
  obtain ⟨-, -, -, -, -, -, -, -, -, -, -, d20, -, c31, -, p31, -, m4, -⟩ := hw.2.2 i hi
  have hp : 2 ^ F.dp i ≤ 2 ^ 20 := Nat.pow_le_pow_right (by omega) d20
  rw [e8, e9, e10, e11]
  have k1 : (0 : Int32) < nI (F.mt i) ↔ ¬ F.mt i ≤ 0 := by
    constructor
    · intro h h2
      have : F.mt i = 0 := by omega
      rw [this] at h; exact absurd h (by decide)
    · intro h; exact nI_lt (a := 0) (by omega) (by omega)
  have k2 : ∀ b, b < 2 ^ 31 → ∀ x, x < 2 ^ 31 → (nI b < nI x ↔ ¬ x ≤ b) := fun b hb x hx => (nI_ltI hb hx).trans (by omega)
  have k3 := k2 300 (by omega) (F.cp i) (by omega)
  have k4 := k2 60 (by omega) (F.ps i) (by omega)
  unfold yOkc
  rw [k1]
  constructor
  · rintro (h | h | h | h) ⟨q1, q2, q3, q4⟩
    · exact h q1
    · exact h q2
    · exact (k3.mp h) (by omega)
    · exact (k4.mp h) (by omega)
  · intro h
    by_cases q1 : F.nv i = false
    · by_cases q2 : F.mt i ≤ 0
      · by_cases q3 : F.cp i ≤ 300
        · by_cases q4 : F.ps i ≤ 60
          · exact absurd ⟨q1, q2, by omega, by omega⟩ h
          · exact Or.inr (Or.inr (Or.inr (k4.mpr q4)))
        · exact Or.inr (Or.inr (Or.inl (k3.mpr q3)))
      · exact Or.inr (Or.inl q2)
    · exact Or.inl q1
end REL
