/-! My own layer: an abstract memory (cells by number, ints in them), programs as predicate transformers over it, and their soundness over the machine. -/
abbrev zM : Type := Nat → Nat → Int32
abbrev zS : Type := List (Option Value) × List Value × zM
/-- a cell: an array (0 int, 1 boolean, 2 long, whose values are those of ints; length), or an object (its class's number) -/
abbrev zEn : Type := (Nat × Nat) ⊕ Nat
def zv (ad : Nat → Nat) : Value → Value
  | .ref a => .ref (ad a)
  | v => v
def zb (x : Int32) : Int32 := if x = 0 then 0 else 1
def zU (g : zM) (a j : Nat) (v : Int32) : zM := fun a' j' => if a' = a then (if j' = j then v else g a' j') else g a' j'
def zfs (ad : Nat → Nat) (a : Nat) (f : Nat → Int32) : Nat → List (Option Nat) → List Value
  | _, [] => []
  | j, some o :: fs => .ref (ad (a + o)) :: zfs ad a f (j + 1) fs
  | j, none :: fs => .int (f j) :: zfs ad a f (j + 1) fs
def zE (ad : Nat → Nat) (cA : Nat → ClassId) (a : Nat) (f : Nat → Int32) : zEn → va_E
  | .inl (0, n) => .inl (cA 0, n, .inl f)
  | .inl (1, n) => .inl (cA 1, n, .inl fun j => zb (f j))
  | .inl (_ + 2, n) => .inl (cA 2, n, .inr (.inl fun j => (f j).toInt64))
  | .inr ci => .inr (ci, zfs ad a f 0 (zFT ci))
def zW (ad : Nat → Nat) (cA : Nat → ClassId) (g : zM) : Nat → List zEn → va_W
  | _, [] => []
  | a, e :: T => (ad a, zE ad cA a (g a) e) :: zW ad cA g (a + 1) T
theorem zW_get {ad : Nat → Nat} {cA : Nat → ClassId} {g : zM} : ∀ (T : List zEn) (a k : Nat) (e : zEn), T[k]? = some e → (zW ad cA g a T)[k]? = some (ad (a + k), zE ad cA (a + k) (g (a + k)) e)
  | [], _, _, _, h => by simp at h
  | x :: T, a, 0, e, h => by simp at h; subst h; simp [zW]
  | x :: T, a, k + 1, e, h => by
    have h1 : T[k]? = some e := by simpa using h
    have h2 := zW_get (ad := ad) (cA := cA) (g := g) T (a + 1) k e h1
    rw [show a + (k + 1) = a + 1 + k by omega]
    simpa [zW] using h2
theorem zW_len {ad : Nat → Nat} {cA : Nat → ClassId} {g : zM} : ∀ (T : List zEn) (a : Nat), (zW ad cA g a T).length = T.length
  | [], _ => rfl
  | x :: T, a => by simp [zW, zW_len T (a + 1)]
theorem zW_of {ad : Nat → Nat} {cA : Nat → ClassId} {g : zM} {T : List zEn} {k : Nat} {q : Nat × va_E} (h : (zW ad cA g 0 T)[k]? = some q) : k < T.length ∧ q.1 = ad k := by
  have hl := (List.getElem?_eq_some_iff.mp h).1
  rw [zW_len] at hl
  obtain ⟨e, he⟩ : ∃ e, T[k]? = some e := ⟨T[k], List.getElem?_eq_getElem hl⟩
  have h2 := zW_get (ad := ad) (cA := cA) (g := g) T 0 k e he
  rw [h] at h2
  have h3 := Option.some.inj h2
  rw [Nat.zero_add] at h3
  exact ⟨hl, by rw [h3]⟩
theorem zW_set {ad : Nat → Nat} {cA : Nat → ClassId} {g g' : zM} {en : va_E} : ∀ (T : List zEn) (a k : Nat) (e : zEn), T[k]? = some e → (∀ x, x ≠ a + k → g' x = g x) → en = zE ad cA (a + k) (g' (a + k)) e → (zW ad cA g a T).set k (ad (a + k), en) = zW ad cA g' a T
  | [], _, _, _, h, _, _ => by simp at h
  | x :: T, a, 0, e, h, hg, he => by
    simp at h; subst h; subst he
    simp only [zW, List.set_cons_zero, Nat.add_zero]
    have : ∀ (T : List zEn) (b : Nat), a < b → zW ad cA g b T = zW ad cA g' b T := by
      intro T
      induction T with
      | nil => intro b _; rfl
      | cons y T ih => intro b hb; simp only [zW]; rw [ih (b + 1) (by omega), hg b (by omega)]
    rw [this T (a + 1) (by omega)]
  | x :: T, a, k + 1, e, h, hg, he => by
    have h1 : T[k]? = some e := by simpa using h
    have ea : a + (k + 1) = a + 1 + k := by omega
    rw [ea] at hg he ⊢
    have h2 := zW_set T (a + 1) k e h1 hg he
    simp only [zW, List.set_cons_succ]
    rw [h2, hg a (by omega)]
def zAp (T : List zEn) (ad : Nat → Nat) : Prop := ∀ i j, i < T.length → j < T.length → ad i = ad j → i = j
def zA (T : List zEn) (ad : Nat → Nat) : Nat → Prop := fun q => ∃ k, k < T.length ∧ q = ad k
theorem zD {ad : Nat → Nat} {cA : Nat → ClassId} {g : zM} {T : List zEn} (h : zAp T ad) : va_D (zA T ad) (zW ad cA g 0 T) := by
  refine ⟨fun i j x y hi hj hxy => ?_, fun k q hk => ?_⟩
  · obtain ⟨l1, e1⟩ := zW_of hi
    obtain ⟨l2, e2⟩ := zW_of hj
    exact h i j l1 l2 (by rw [← e1, ← e2]; exact hxy)
  · obtain ⟨l1, e1⟩ := zW_of hk
    exact ⟨k, l1, e1⟩
theorem zU_self (g : zM) (a j : Nat) (v : Int32) : zU g a j v a = upd (g a) j v := by
  funext x; simp [zU, upd]
theorem zU_ne (g : zM) (a j : Nat) (v : Int32) {x : Nat} (h : x ≠ a) : zU g a j v x = g x := by
  funext y; simp [zU, h]
theorem zU_at (g : zM) (a j : Nat) (v : Int32) : zU g a j v a j = v := by simp [zU]
theorem zU_off (g : zM) (a j : Nat) (v : Int32) {j' : Nat} (h : j' ≠ j) : zU g a j v a j' = g a j' := by simp [zU, h]
theorem zfs_get {ad : Nat → Nat} {a : Nat} {f : Nat → Int32} : ∀ (F : List (Option Nat)) (j k : Nat), (zfs ad a f j F)[k]? = (F[k]?).map (fun o => match o with | some o => Value.ref (ad (a + o)) | none => Value.int (f (j + k)))
  | [], _, _ => by simp [zfs]
  | some o :: F, j, 0 => by simp [zfs]
  | none :: F, j, 0 => by simp [zfs]
  | some o :: F, j, k + 1 => by simp only [zfs, List.getElem?_cons_succ, zfs_get F (j + 1) k, show j + 1 + k = j + (k + 1) by omega]
  | none :: F, j, k + 1 => by simp only [zfs, List.getElem?_cons_succ, zfs_get F (j + 1) k, show j + 1 + k = j + (k + 1) by omega]
theorem zfs_len {ad : Nat → Nat} {a : Nat} {f : Nat → Int32} : ∀ (F : List (Option Nat)) (j : Nat), (zfs ad a f j F).length = F.length
  | [], _ => rfl
  | some o :: F, j => by simp [zfs, zfs_len F (j + 1)]
  | none :: F, j => by simp [zfs, zfs_len F (j + 1)]
theorem zfs_congr {ad : Nat → Nat} {a : Nat} {f f' : Nat → Int32} : ∀ (F : List (Option Nat)) (j : Nat), (∀ x, j ≤ x → f' x = f x) → zfs ad a f' j F = zfs ad a f j F
  | [], _, _ => rfl
  | some o :: F, j, h => by simp only [zfs]; rw [zfs_congr F (j + 1) (fun x hx => h x (by omega))]
  | none :: F, j, h => by simp only [zfs]; rw [zfs_congr F (j + 1) (fun x hx => h x (by omega)), h j (Nat.le_refl j)]
theorem zfs_set {ad : Nat → Nat} {a : Nat} {v : Int32} : ∀ (F : List (Option Nat)) (f f' : Nat → Int32) (j k : Nat), F[k]? = some none → f' (j + k) = v → (∀ x, x ≠ j + k → f' x = f x) → (zfs ad a f j F).set k (.int v) = zfs ad a f' j F
  | [], _, _, _, _, h, _, _ => by simp at h
  | some o :: F, f, f', j, 0, h, _, _ => by simp at h
  | none :: F, f, f', j, 0, h, h1, h2 => by
    simp only [zfs, List.set_cons_zero]
    rw [Nat.add_zero] at h1
    rw [h1, zfs_congr F (j + 1) (fun x hx => h2 x (by omega))]
  | some o :: F, f, f', j, k + 1, h, h1, h2 => by
    have h3 : F[k]? = some none := by simpa using h
    have ea : j + (k + 1) = j + 1 + k := by omega
    rw [ea] at h1 h2
    simp only [zfs, List.set_cons_succ]
    rw [zfs_set F f f' (j + 1) k h3 h1 h2]
  | none :: F, f, f', j, k + 1, h, h1, h2 => by
    have h3 : F[k]? = some none := by simpa using h
    have ea : j + (k + 1) = j + 1 + k := by omega
    rw [ea] at h1 h2
    simp only [zfs, List.set_cons_succ]
    rw [zfs_set F f f' (j + 1) k h3 h1 h2, h2 j (by omega)]
/-- the class's number at a cell; an array's length (0 where it is none) -/
def zk (T : List zEn) (a ci : Nat) : Prop := T[a]? = some (.inr ci)
def zn (T : List zEn) (b : Nat) (a : Nat) : Nat := match T[a]? with
  | some (.inl (b', n)) => if b' = b then n else 0
  | _ => 0
theorem zn_of {T : List zEn} {b : Nat} {a i : Nat} (h : i < zn T b a) : T[a]? = some (.inl (b, zn T b a)) := by
  unfold zn at h ⊢
  split at h
  · rename_i b' n he
    split at h
    · rename_i hb; subst hb; rw [he]; simp
    · omega
  · omega
/-- local variables -/
def zlv (ad : Nat → Nat) (ls : List (Option Value)) : List (Nat × Value) := (List.range ls.length).filterMap fun i => match ls[i]? with
  | some (some v) => some (i, zv ad v)
  | _ => none
theorem zlv_mem {ad : Nat → Nat} {ls : List (Option Value)} {i : Nat} {w : Value} : (i, w) ∈ zlv ad ls ↔ ∃ v, ls[i]? = some (some v) ∧ w = zv ad v := by
  unfold zlv
  rw [List.mem_filterMap]
  constructor
  · rintro ⟨j, hj, h⟩
    split at h
    · rename_i v hv
      cases h
      exact ⟨v, hv, rfl⟩
    · cases h
  · rintro ⟨v, hv, rfl⟩
    refine ⟨i, List.mem_range.mpr (List.getElem?_eq_some_iff.mp hv).1, ?_⟩
    simp [hv]
def zL (ad : Nat → Nat) (la : Array Slot) (nL : Nat) (ls : List (Option Value)) : Prop := ls.length = nL ∧ lv_has la nL (zlv ad ls) ∧ ∀ (i : Nat) (v : Value), ls[i]? = some (some v) → v.category = 1
theorem zv_cat (ad : Nat → Nat) (v : Value) : (zv ad v).category = v.category := by cases v <;> rfl
theorem zL.get {ad : Nat → Nat} {la : Array Slot} {nL : Nat} {ls : List (Option Value)} (h : zL ad la nL ls) {i : Nat} {v : Value} (hi : ls[i]? = some (some v)) : la[i]? = some (.val (zv ad v)) :=
  h.2.1.2.2 (i, zv ad v) (zlv_mem.mpr ⟨v, hi, rfl⟩)
theorem zL.put {ad : Nat → Nat} {la la' : Array Slot} {nL : Nat} {ls : List (Option Value)} (h : zL ad la nL ls) {i : Nat} {v : Value} (hi : i < nL) (hv : v.category = 1)
    (h' : lv_has la' nL ((i, zv ad v) :: (zlv ad ls).filter (fun q => !(q.1 == i) && !(q.1 + 1 == i && q.2.category == 2)))) : zL ad la' nL (ls.set i (some v)) := by
  refine ⟨by rw [List.length_set]; exact h.1, ⟨h'.1, h'.2.1, ?_⟩, ?_⟩
  · rintro ⟨j, w⟩ hq
    obtain ⟨u, hu, rfl⟩ := zlv_mem.mp hq
    apply h'.2.2
    by_cases hj : j = i
    · subst hj
      rw [List.getElem?_set_self (by rw [h.1]; exact hi)] at hu
      cases hu
      exact List.mem_cons_self
    · rw [List.getElem?_set_ne (Ne.symm hj)] at hu
      refine List.mem_cons_of_mem _ (List.mem_filter.mpr ⟨zlv_mem.mpr ⟨u, hu, rfl⟩, ?_⟩)
      have := h.2.2 j u hu
      simp [hj, zv_cat, this]
  · intro j u hu
    by_cases hj : j = i
    · subst hj
      rw [List.getElem?_set_self (by rw [h.1]; exact hi)] at hu
      cases hu
      exact hv
    · rw [List.getElem?_set_ne (Ne.symm hj)] at hu
      exact h.2.2 j u hu
def zNw (U : State) : Prop := ∀ q ∈ zNM, va_Nw (.methodLinkNest q.1 q.2.1 q.2.2.1 q.2.2.2) U
theorem zNw.same {u U : State} (h : u.vm = U.vm) (hN : zNw u) : zNw U := fun q hq => va_Nw.same rfl h (hN q hq)
theorem zNw.warm {u U : State} (h : u.WarmedH U.vm) (hN : zNw u) : zNw U := fun q hq => va_Nw.warmM h (hN q hq)
theorem zT31 : ∀ (a b : Nat), zn zT b a < 2 ^ 31 := by
  have h : ∀ e ∈ zT, (match e with | .inl (_, n) => decide (n < 2 ^ 31) | .inr _ => true) = true := by decide +kernel
  intro a b
  unfold zn
  split
  · rename_i b' n he
    have h1 := h _ (List.mem_of_getElem? he)
    split
    · simpa using h1
    · exact Nat.two_pow_pos 31
  · exact Nat.two_pow_pos 31
