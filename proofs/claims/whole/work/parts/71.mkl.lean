/-! what the class's make reads out of its call -/
section MKL
def jNb (x : Int32) : Prop := x = 2 ∨ x = 6 ∨ x = 7 ∨ x = 8 ∨ x = 10
def jNm (x a : Int32) : Int32 := if x = 2 ∨ x = 6 ∨ x = 7 ∨ x = 8 ∨ x = 10 then a else -1
def jPp (x a b : Int32) : Int32 := if jPartsN x < 1 then -1 else if x = 2 ∨ x = 6 ∨ x = 7 ∨ x = 8 ∨ x = 10 then b else a
def jQq (x b c : Int32) : Int32 := if jPartsN x < 2 then -1 else if x = 2 ∨ x = 6 ∨ x = 7 ∨ x = 8 ∨ x = 10 then c else b
theorem jNb_k : ∀ k, k ≤ 10 → ((nI k = 2 ∨ nI k = 6 ∨ nI k = 7 ∨ nI k = 8 ∨ nI k = 10) ↔ yNb k) := by unfold yNb; decide +kernel
theorem jPa_1 : ∀ k, k ≤ 10 → (jPartsN (nI k) < 1 ↔ ¬ (3 ≤ k ∧ k ≤ 9)) := by unfold jPartsN; decide +kernel
theorem jPa_2 : ∀ k, k ≤ 10 → (jPartsN (nI k) < 2 ↔ ¬ (k = 3 ∨ k = 4 ∨ k = 6)) := by unfold jPartsN; decide +kernel
theorem yHs_nb : ∀ k, k ≤ 10 → 3 ≤ k ∧ k ≤ 9 → (yHs k ↔ yNb k) := by unfold yNb yHs; decide +kernel
theorem jPp_in {k : Nat} {a b : Int32} (hk : k ≤ 10) (h : 3 ≤ k ∧ k ≤ 9) : jPp (nI k) a b = jA1 k a b := by
  unfold jPp jA1
  rw [if_neg (fun e => (jPa_1 k hk).mp e h)]
  by_cases e : yHs k
  · rw [if_pos ((jNb_k k hk).mpr ((yHs_nb k hk h).mp e)), if_pos e]
  · rw [if_neg (fun q => e ((yHs_nb k hk h).mpr ((jNb_k k hk).mp q))), if_neg e]
theorem jPp_out {k : Nat} {a b : Int32} (hk : k ≤ 10) (h : ¬ (3 ≤ k ∧ k ≤ 9)) : jPp (nI k) a b = -1 := if_pos ((jPa_1 k hk).mpr h)
theorem jQq_in {k : Nat} {b c : Int32} (hk : k ≤ 10) (h : k = 3 ∨ k = 4 ∨ k = 6) : jQq (nI k) b c = jA1 k b c := by
  have h' : 3 ≤ k ∧ k ≤ 9 := by omega
  unfold jQq jA1
  rw [if_neg (fun e => (jPa_2 k hk).mp e h)]
  by_cases e : yHs k
  · rw [if_pos ((jNb_k k hk).mpr ((yHs_nb k hk h').mp e)), if_pos e]
  · rw [if_neg (fun q => e ((yHs_nb k hk h').mpr ((jNb_k k hk).mp q))), if_neg e]
theorem jQq_out {k : Nat} {b c : Int32} (hk : k ≤ 10) (h : ¬ (k = 3 ∨ k = 4 ∨ k = 6)) : jQq (nI k) b c = -1 := if_pos ((jPa_2 k hk).mpr h)
theorem jNm_fits {k : Nat} {a : Int32} (hk : k ≤ 10) : jFits k (jNm (nI k) a) ↔ jFits k a := by
  unfold jNm
  by_cases e : yNb k
  · rw [if_pos ((jNb_k k hk).mpr e)]
  · unfold yNb at e
    unfold jFits
    refine ⟨fun _ => ⟨fun q => ?_, fun q => ?_, fun q => ?_⟩, fun _ => ⟨fun q => ?_, fun q => ?_, fun q => ?_⟩⟩ <;> exact absurd (by omega) e
theorem mk_out {F : yF} {x a b c : Int32} (h : x < 0 ∨ 10 < x) : ¬ ∃ kk z p q, yDec F x a b c kk z p q := by
  rintro ⟨kk, z, p, q, rfl, hk, -⟩
  rcases h with h | h
  · exact nI_pos (by omega) h
  · exact nI_nlt (a := 10) (b := kk) (by omega) (by omega) h
theorem yDec_k {F : yF} {k kk z p q : Nat} {a b c : Int32} (hk : k ≤ 10) (h : yDec F (nI k) a b c kk z p q) : kk = k := (nI_inj (by omega) (by have := h.2.1; omega) h.1).symm
theorem mk_fit {F : yF} {k : Nat} {a b c : Int32} (hk : k ≤ 10) (h : ¬ jFits k a) : ¬ ∃ kk z p q, yDec F (nI k) a b c kk z p q := by
  rintro ⟨kk, z, p, q, hd⟩
  have e := yDec_k hk hd
  subst e
  exact h hd.2.2.1
def mkC (g : zM) (x a b c : Int32) : Prop := (¬ jPartsN x < 1 ∧ (jPp x a b < 0 ∨ g 1 10 ≤ jPp x a b)) ∨ (¬ jPartsN x < 2 ∧ (jQq x b c < 0 ∨ g 1 10 ≤ jQq x b c))
theorem mk_no {F : yF} {g : zM} {k : Nat} {a b c : Int32} (hk : k ≤ 10) (hn : g 1 10 = nI F.n) (h60 : F.n ≤ 60) (h : mkC g (nI k) a b c) : ¬ ∃ kk z p q, yDec F (nI k) a b c kk z p q := by
  rintro ⟨kk, z, p, q, hd⟩
  have e := yDec_k hk hd
  subst e
  obtain ⟨-, -, -, -, -, d1, d2, d3, d4⟩ := hd
  have nin : ∀ x : Int32, ∀ j, j < F.n → x = nI j → ¬ (x < 0 ∨ g 1 10 ≤ x) := by
    intro x j hj hx h
    subst hx
    rw [hn] at h
    rcases h with h | h
    · exact nI_pos (by omega) h
    · exact nI_ge hj (by omega) h
  rcases h with ⟨h1, h2⟩ | ⟨h1, h2⟩
  · have h3 : 3 ≤ kk ∧ kk ≤ 9 := Classical.byContradiction fun q => h1 ((jPa_1 kk hk).mpr q)
    rw [jPp_in hk h3] at h2
    exact nin _ p (d1 h3).1 (d1 h3).2 h2
  · have h3 : kk = 3 ∨ kk = 4 ∨ kk = 6 := Classical.byContradiction fun q => h1 ((jPa_2 kk hk).mpr q)
    rw [jQq_in hk h3] at h2
    exact nin _ q (d3 h3).1 (d3 h3).2 h2
theorem mk_yes {F : yF} {g : zM} {k : Nat} {a b c : Int32} (hk : k ≤ 10) (hn : g 1 10 = nI F.n) (h60 : F.n ≤ 60) (hf : jFits k a) (h : ¬ mkC g (nI k) a b c) : ∃ z p q, yDec F (nI k) a b c k z p q ∧ jPp (nI k) a b = pI p ∧ jQq (nI k) b c = pI q ∧ (yNb k → jNm (nI k) a = nI z) := by
  obtain ⟨z, z1, z2⟩ := jFits_z hf
  have ex : ∀ x : Int32, ¬ (x < 0 ∨ g 1 10 ≤ x) → ∃ j, j < F.n ∧ x = nI j := fun x hx => zix hn h60 hx
  have hp : ∃ p, ((3 ≤ k ∧ k ≤ 9) → p < F.n ∧ jA1 k a b = nI p) ∧ (¬ (3 ≤ k ∧ k ≤ 9) → p = 60) ∧ jPp (nI k) a b = pI p := by
    by_cases h3 : 3 ≤ k ∧ k ≤ 9
    · obtain ⟨j, hj, e⟩ := ex (jPp (nI k) a b) (fun q => h (Or.inl ⟨fun e => (jPa_1 k hk).mp e h3, q⟩))
      exact ⟨j, fun _ => ⟨hj, by rw [← jPp_in hk h3]; exact e⟩, fun q => absurd h3 q, by rw [e, pI_lt (by omega)]⟩
    · exact ⟨60, fun q => absurd q h3, fun _ => rfl, by rw [jPp_out hk h3, pI_60]⟩
  have hq : ∃ p, ((k = 3 ∨ k = 4 ∨ k = 6) → p < F.n ∧ jA1 k b c = nI p) ∧ (¬ (k = 3 ∨ k = 4 ∨ k = 6) → p = 60) ∧ jQq (nI k) b c = pI p := by
    by_cases h3 : k = 3 ∨ k = 4 ∨ k = 6
    · obtain ⟨j, hj, e⟩ := ex (jQq (nI k) b c) (fun q => h (Or.inr ⟨fun e => (jPa_2 k hk).mp e h3, q⟩))
      exact ⟨j, fun _ => ⟨hj, by rw [← jQq_in hk h3]; exact e⟩, fun q => absurd h3 q, by rw [e, pI_lt (by omega)]⟩
    · exact ⟨60, fun q => absurd q h3, fun _ => rfl, by rw [jQq_out hk h3, pI_60]⟩
  obtain ⟨p, p1, p2, p3⟩ := hp
  obtain ⟨q, q1, q2, q3⟩ := hq
  refine ⟨z, p, q, ⟨rfl, hk, hf, z1, z2, p1, p2, q1, q2⟩, p3, q3, fun e => ?_⟩
  unfold jNm
  rw [if_pos ((jNb_k k hk).mpr e)]
  exact z1 e
theorem yDec_req {F : yF} {x a b c : Int32} {k z p q : Nat} (h : yDec F x a b c k z p q) (hd : 1 + nMax (F.dp p) (F.dp q) ≤ 20) : yReq F k z p q := by
  obtain ⟨-, hk, hf, z1, ⟨-, z2⟩, d1, d2, d3, d4⟩ := h
  have hb : yNb k → ((k = 2 ∨ k = 8) → 3 ≤ z) ∧ ((k = 2 ∨ k = 6 ∨ k = 7 ∨ k = 8) → z < 8) ∧ (k = 10 → z < 4) := by
    intro e
    rw [z1 e] at hf
    exact jFits_b z2 hf
  refine ⟨hk, fun e => (hb ?_).1 e, fun e => (hb ?_).2.1 e, fun e => (hb ?_).2.2 e, fun e => (d1 e).1, d2, fun e => (d3 e).1, d4, hd⟩ <;> (unfold yNb; omega)
end MKL
