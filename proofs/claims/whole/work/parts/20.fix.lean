/-! least solutions of equations with three values, by two rails: what is surely true, what is possibly true -/
abbrev yR : Type := Nat × Nat → Bool
abbrev yX : Type := yR × yR
def yMono (e : Nat × Nat → yR → yR → Bool) : Prop := ∀ (v : Nat × Nat) (a a' b b' : yR), (∀ u, a u = true → a' u = true) → (∀ u, b' u = true → b u = true) → e v a b = true → e v a' b' = true
def yLe (x y : yX) : Prop := (∀ v, x.1 v = true → y.1 v = true) ∧ ∀ v, y.2 v = true → x.2 v = true
def yFix (e : Nat × Nat → yR → yR → Bool) (x : yX) : Prop := ∀ v, x.1 v = e v x.1 x.2 ∧ x.2 v = e v x.2 x.1
def yPost (e : Nat × Nat → yR → yR → Bool) (x : yX) : Prop := (∀ v, x.1 v = true → e v x.1 x.2 = true) ∧ ∀ v, e v x.2 x.1 = true → x.2 v = true
def yCh (e : Nat × Nat → yR → yR → Bool) (x : yX) : Prop := yPost e x ∧ ∀ y, yFix e y → yLe x y
/-- some variables, in either rail, are taken anew from their equations -/
def yUpd (e : Nat × Nat → yR → yR → Bool) (x x' : yX) : Prop := (∀ v, x'.1 v = x.1 v ∨ x'.1 v = e v x.1 x.2) ∧ ∀ v, x'.2 v = x.2 v ∨ x'.2 v = e v x.2 x.1
theorem yUpd.le {e : Nat × Nat → yR → yR → Bool} {x x' : yX} (h : yPost e x) (u : yUpd e x x') : yLe x x' := by
  refine ⟨fun v hv => ?_, fun v hv => ?_⟩
  · rcases u.1 v with h1 | h1
    · rw [h1]; exact hv
    · rw [h1]; exact h.1 v hv
  · rcases u.2 v with h1 | h1
    · rw [h1] at hv; exact hv
    · rw [h1] at hv; exact h.2 v hv
theorem yUpd.ch {e : Nat × Nat → yR → yR → Bool} {x x' : yX} (hm : yMono e) (h : yCh e x) (u : yUpd e x x') : yCh e x' := by
  have hl := u.le h.1
  refine ⟨⟨fun v hv => ?_, fun v hv => ?_⟩, fun y hy => ⟨fun v hv => ?_, fun v hv => ?_⟩⟩
  · rcases u.1 v with h1 | h1
    · rw [h1] at hv
      exact hm v _ _ _ _ hl.1 hl.2 (h.1.1 v hv)
    · rw [h1] at hv
      exact hm v _ _ _ _ hl.1 hl.2 hv
  · rcases u.2 v with h1 | h1
    · rw [h1]
      exact h.1.2 v (hm v _ _ _ _ hl.2 hl.1 hv)
    · rw [h1]
      exact hm v _ _ _ _ hl.2 hl.1 hv
  · have hy2 := h.2 y hy
    rcases u.1 v with h1 | h1
    · rw [h1] at hv
      exact hy2.1 v hv
    · rw [h1] at hv
      rw [(hy v).1]
      exact hm v _ _ _ _ hy2.1 hy2.2 hv
  · have hy2 := h.2 y hy
    rcases u.2 v with h1 | h1
    · rw [h1]
      exact hy2.2 v hv
    · rw [h1]
      rw [(hy v).2] at hv
      exact hm v _ _ _ _ hy2.2 hy2.1 hv
theorem yb_eq {a b : Bool} (h1 : a = true → b = true) (h2 : b = true → a = true) : a = b := by
  cases a <;> cases b <;> simp_all
theorem yCh_eq {e : Nat × Nat → yR → yR → Bool} {x y : yX} (hx : yCh e x) (fx : yFix e x) (hy : yCh e y) (fy : yFix e y) : x = y := by
  have h1 := hx.2 y fy
  have h2 := hy.2 x fx
  refine Prod.ext (funext fun v => yb_eq (h1.1 v) (h2.1 v)) (funext fun v => yb_eq (h2.2 v) (h1.2 v))
/-! the equations -/
abbrev yP : Type := (Nat × Nat) × (Nat → Nat) × (Nat → Nat) × (Nat → Nat) × (Nat → Nat) × (Nat → Nat) × (Nat → Bool) × Bool × (Nat → Bool)
abbrev yP.n (P : yP) : Nat := P.1.1
abbrev yP.ns (P : yP) : Nat := P.1.2
abbrev yP.kd (P : yP) : Nat → Nat := P.2.1
abbrev yP.nm (P : yP) : Nat → Nat := P.2.2.1
abbrev yP.pa (P : yP) : Nat → Nat := P.2.2.2.1
abbrev yP.fi (P : yP) : Nat → Nat := P.2.2.2.2.1
abbrev yP.se (P : yP) : Nat → Nat := P.2.2.2.2.2.1
abbrev yP.rg (P : yP) : Nat → Bool := P.2.2.2.2.2.2.1
abbrev yP.f0 (P : yP) : Bool := P.2.2.2.2.2.2.2.1
abbrev yP.ip (P : yP) : Nat → Bool := P.2.2.2.2.2.2.2.2
def yw (r : yR) (c j : Nat) : Bool := r (c + 1, j)
def ys (r : yR) (i : Nat) : Bool := r (0, i)
def eGo (P : yP) (r o : yR) (c : Nat) : Bool :=
  if c = 0 then P.f0 else
  if P.kd (P.pa c) = 3 then (if P.fi (P.pa c) = c then yw r (P.pa c) 0 else yw r (P.fi (P.pa c)) 5) else
  if P.kd (P.pa c) = 5 then (if P.fi (P.pa c) = c then yw r (P.pa c) 0 || yw r (P.se (P.pa c)) 5 else yw r (P.fi (P.pa c)) 5) else
  if P.kd (P.pa c) = 6 then yw r (P.pa c) 0 && (if P.fi (P.pa c) = c then ys r (P.nm (P.pa c)) else !ys o (P.nm (P.pa c))) else
  yw r (P.pa c) 0
def eHeld (P : yP) (r : yR) (c : Nat) : Bool := yw r c 1 && yw r (P.fi c) 4 && ys r (P.nm c)
def eRes (P : yP) (r o : yR) (c : Nat) : Bool := if c = 0 then !P.f0 else if P.kd (P.pa c) = 7 then yw r (P.pa c) 1 && !ys o (P.nm (P.pa c)) else yw r (P.pa c) 1
def eSusp (P : yP) (r : yR) (c : Nat) : Bool := if c = 0 then false else if P.kd (P.pa c) = 7 then yw r (P.pa c) 2 || eHeld P r (P.pa c) else yw r (P.pa c) 2
def eKill (P : yP) (r : yR) (c : Nat) : Bool := if c = 0 then false else if P.kd (P.pa c) = 9 then yw r (P.pa c) 3 || yw r c 7 else yw r (P.pa c) 3
def eSel (P : yP) (r : yR) (c : Nat) : Bool :=
  if P.kd c = 1 then P.rg (P.nm c) else if P.kd c = 0 ∨ P.kd c = 2 ∨ P.kd c = 10 then false else
  if P.kd c = 7 ∨ P.kd c = 8 ∨ P.kd c = 9 then yw r (P.fi c) 4 else yw r (P.fi c) 4 || yw r (P.se c) 4
def eAny (r : yR) (c : Nat) : Nat → Bool
  | 0 => yw r c 5
  | i + 1 => eAny r c i || yw r c (5 + (i + 1))
def eUp (r o : yR) (c d i : Nat) : Bool := !(yw o c 0 || yw o d 4) || eAny r d i
def eK (P : yP) (r o : yR) (c i : Nat) : Bool :=
  if P.kd c = 0 ∨ P.kd c = 2 then (if i = 0 then yw r c 0 else false) else
  if P.kd c = 1 then (if i = 0 then P.rg (P.nm c) && yw r c 1 else if i = 1 then yw r c 0 else false) else
  if P.kd c = 10 then (if i = 2 + P.nm c then yw r c 0 else false) else
  if P.kd c = 8 then yw r (P.fi c) (5 + i) else
  if P.kd c = 7 then (if i = 1 then yw r (P.fi c) 6 || eHeld P r c else yw r (P.fi c) (5 + i)) else
  if P.kd c = 9 then (if i = 0 then yw r (P.fi c) 5 || yw r (P.fi c) 7 else if i = 1 then yw r (P.fi c) 6 else if i = 5 then false else yw r (P.fi c) (6 + i)) else
  if P.kd c = 3 then (if i = 0 then yw r (P.se c) 5 else yw r (P.fi c) (5 + i) || yw r (P.se c) (5 + i)) else
  if P.kd c = 5 then (if i = 0 then false else yw r (P.fi c) (5 + i) || yw r (P.se c) (5 + i)) else
  if P.kd c = 6 then yw r (P.fi c) (5 + i) || yw r (P.se c) (5 + i) else
  (yw r (P.fi c) (5 + i) && eUp r o c (P.se c) i) || (yw r (P.se c) (5 + i) && eUp r o c (P.fi c) i)
def eSig (P : yP) (r : yR) (i : Nat) : Bool := if i < 3 then P.ip i else (List.range P.n).any fun c => P.kd c == 2 && P.nm c == i && yw r c 0
def eEq (P : yP) (v : Nat × Nat) (r o : yR) : Bool := match v with
  | (0, i) => if i < P.ns then eSig P r i else false
  | (c + 1, j) => if c < P.n then (if j = 0 then eGo P r o c else if j = 1 then eRes P r o c else if j = 2 then eSusp P r c else if j = 3 then eKill P r c else if j = 4 then eSel P r c else if j < 11 then eK P r o c (j - 5) else false) else false
section YMONO
variable {r r' o o' : yR}
theorem y_or {a a' b b' : Bool} (h1 : a = true → a' = true) (h2 : b = true → b' = true) : (a || b) = true → (a' || b') = true := by cases a <;> cases b <;> simp_all
theorem y_and {a a' b b' : Bool} (h1 : a = true → a' = true) (h2 : b = true → b' = true) : (a && b) = true → (a' && b') = true := by cases a <;> cases b <;> simp_all
theorem y_not {a a' : Bool} (h1 : a' = true → a = true) : (!a) = true → (!a') = true := by cases a <;> cases a' <;> simp_all
theorem y_ite {c : Prop} {a a' b b' : Bool} (hd : Decidable c) (h1 : c → a = true → a' = true) (h2 : ¬ c → b = true → b' = true) : (if c then a else b) = true → (if c then a' else b') = true := by
  by_cases hc : c
  · simp only [if_pos hc]; exact h1 hc
  · simp only [if_neg hc]; exact h2 hc
theorem y_w (hr : ∀ u, r u = true → r' u = true) (c j : Nat) : yw r c j = true → yw r' c j = true := hr _
theorem y_s (hr : ∀ u, r u = true → r' u = true) (i : Nat) : ys r i = true → ys r' i = true := hr _
theorem y_id {a : Bool} : a = true → a = true := id
theorem eHeld_mono (P : yP) (hr : ∀ u, r u = true → r' u = true) (c : Nat) : eHeld P r c = true → eHeld P r' c = true := y_and (y_and (y_w hr _ _) (y_w hr _ _)) (y_s hr _)
theorem eGo_mono (P : yP) (hr : ∀ u, r u = true → r' u = true) (ho : ∀ u, o' u = true → o u = true) (c : Nat) : eGo P r o c = true → eGo P r' o' c = true :=
  y_ite _ (fun _ => y_id) fun _ => y_ite _ (fun _ => y_ite _ (fun _ => y_w hr _ _) (fun _ => y_w hr _ _)) fun _ => y_ite _ (fun _ => y_ite _ (fun _ => y_or (y_w hr _ _) (y_w hr _ _)) (fun _ => y_w hr _ _)) fun _ => y_ite _ (fun _ => y_and (y_w hr _ _) (y_ite _ (fun _ => y_s hr _) (fun _ => y_not (y_s ho _)))) fun _ => y_w hr _ _
theorem eRes_mono (P : yP) (hr : ∀ u, r u = true → r' u = true) (ho : ∀ u, o' u = true → o u = true) (c : Nat) : eRes P r o c = true → eRes P r' o' c = true :=
  y_ite _ (fun _ => y_id) fun _ => y_ite _ (fun _ => y_and (y_w hr _ _) (y_not (y_s ho _))) fun _ => y_w hr _ _
theorem eSusp_mono (P : yP) (hr : ∀ u, r u = true → r' u = true) (c : Nat) : eSusp P r c = true → eSusp P r' c = true :=
  y_ite _ (fun _ => y_id) fun _ => y_ite _ (fun _ => y_or (y_w hr _ _) (eHeld_mono P hr _)) fun _ => y_w hr _ _
theorem eKill_mono (P : yP) (hr : ∀ u, r u = true → r' u = true) (c : Nat) : eKill P r c = true → eKill P r' c = true :=
  y_ite _ (fun _ => y_id) fun _ => y_ite _ (fun _ => y_or (y_w hr _ _) (y_w hr _ _)) fun _ => y_w hr _ _
theorem eSel_mono (P : yP) (hr : ∀ u, r u = true → r' u = true) (c : Nat) : eSel P r c = true → eSel P r' c = true :=
  y_ite _ (fun _ => y_id) fun _ => y_ite _ (fun _ => y_id) fun _ => y_ite _ (fun _ => y_w hr _ _) fun _ => y_or (y_w hr _ _) (y_w hr _ _)
theorem eAny_mono (hr : ∀ u, r u = true → r' u = true) (c : Nat) : ∀ i, eAny r c i = true → eAny r' c i = true
  | 0 => y_w hr _ _
  | i + 1 => y_or (eAny_mono hr c i) (y_w hr _ _)
theorem eUp_mono (hr : ∀ u, r u = true → r' u = true) (ho : ∀ u, o' u = true → o u = true) (c d i : Nat) : eUp r o c d i = true → eUp r' o' c d i = true :=
  y_or (y_not (y_or (y_w ho _ _) (y_w ho _ _))) (eAny_mono hr d i)
theorem eK_mono (P : yP) (hr : ∀ u, r u = true → r' u = true) (ho : ∀ u, o' u = true → o u = true) (c i : Nat) : eK P r o c i = true → eK P r' o' c i = true :=
  y_ite _ (fun _ => y_ite _ (fun _ => y_w hr _ _) fun _ => y_id) fun _ => y_ite _ (fun _ => y_ite _ (fun _ => y_and y_id (y_w hr _ _)) fun _ => y_ite _ (fun _ => y_w hr _ _) fun _ => y_id) fun _ =>
  y_ite _ (fun _ => y_ite _ (fun _ => y_w hr _ _) fun _ => y_id) fun _ => y_ite _ (fun _ => y_w hr _ _) fun _ => y_ite _ (fun _ => y_ite _ (fun _ => y_or (y_w hr _ _) (eHeld_mono P hr _)) fun _ => y_w hr _ _) fun _ =>
  y_ite _ (fun _ => y_ite _ (fun _ => y_or (y_w hr _ _) (y_w hr _ _)) fun _ => y_ite _ (fun _ => y_w hr _ _) fun _ => y_ite _ (fun _ => y_id) fun _ => y_w hr _ _) fun _ =>
  y_ite _ (fun _ => y_ite _ (fun _ => y_w hr _ _) fun _ => y_or (y_w hr _ _) (y_w hr _ _)) fun _ => y_ite _ (fun _ => y_ite _ (fun _ => y_id) fun _ => y_or (y_w hr _ _) (y_w hr _ _)) fun _ =>
  y_ite _ (fun _ => y_or (y_w hr _ _) (y_w hr _ _)) fun _ => y_or (y_and (y_w hr _ _) (eUp_mono hr ho _ _ _)) (y_and (y_w hr _ _) (eUp_mono hr ho _ _ _))
theorem eSig_mono (P : yP) (hr : ∀ u, r u = true → r' u = true) (i : Nat) : eSig P r i = true → eSig P r' i = true := by
  refine y_ite _ (fun _ => y_id) fun _ h => ?_
  rw [List.any_eq_true] at h ⊢
  obtain ⟨c, h1, h2⟩ := h
  exact ⟨c, h1, y_and y_id (y_w hr _ _) h2⟩
theorem eEq_mono (P : yP) : yMono (eEq P) := by
  rintro ⟨v, j⟩ r r' o o' hr ho
  cases v with
  | zero => exact y_ite _ (fun _ => eSig_mono P hr j) fun _ => y_id
  | succ c =>
    exact y_ite _ (fun _ => y_ite _ (fun _ => eGo_mono P hr ho c) fun _ => y_ite _ (fun _ => eRes_mono P hr ho c) fun _ => y_ite _ (fun _ => eSusp_mono P hr c) fun _ => y_ite _ (fun _ => eKill_mono P hr c) fun _ =>
      y_ite _ (fun _ => eSel_mono P hr c) fun _ => y_ite _ (fun _ => eK_mono P hr ho c _) fun _ => y_id) fun _ => y_id
end YMONO
/-! the measure: what isn't known yet -/
def yCnt : List (Nat × Nat) → yX → Nat
  | [], _ => 0
  | v :: vs, x => (if x.1 v = true then 0 else 1) + (if x.2 v = true then 1 else 0) + yCnt vs x
theorem yCnt_max : ∀ (vs : List (Nat × Nat)) (x : yX), yCnt vs x ≤ 2 * vs.length
  | [], _ => Nat.le_refl _
  | v :: vs, x => by
    have := yCnt_max vs x
    simp only [yCnt, List.length_cons]
    split <;> split <;> omega
theorem yCnt_le {x x' : yX} (h : yLe x x') : ∀ (vs : List (Nat × Nat)), yCnt vs x' ≤ yCnt vs x
  | [] => Nat.le_refl _
  | v :: vs => by
    have h0 := yCnt_le h vs
    have h1 := h.1 v
    have h2 := h.2 v
    simp only [yCnt]
    cases e1 : x.1 v <;> cases e2 : x.2 v <;> cases e3 : x'.1 v <;> cases e4 : x'.2 v <;> simp_all <;> omega
theorem yCnt_lt {x x' : yX} (h : yLe x x') : ∀ (vs : List (Nat × Nat)) (v : Nat × Nat), v ∈ vs → (x'.1 v ≠ x.1 v ∨ x'.2 v ≠ x.2 v) → yCnt vs x' < yCnt vs x
  | [], _, hv, _ => by cases hv
  | w :: vs, v, hv, hne => by
    have h0 := yCnt_le h vs
    have h1 := h.1 w
    have h2 := h.2 w
    rcases List.mem_cons.mp hv with rfl | hv
    · simp only [yCnt]
      cases e1 : x.1 v <;> cases e2 : x.2 v <;> cases e3 : x'.1 v <;> cases e4 : x'.2 v <;> simp_all <;> omega
    · have h3 := yCnt_lt h vs v hv hne
      simp only [yCnt]
      cases e1 : x.1 w <;> cases e2 : x.2 w <;> cases e3 : x'.1 w <;> cases e4 : x'.2 w <;> simp_all <;> omega
