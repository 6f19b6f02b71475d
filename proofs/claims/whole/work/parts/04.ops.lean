/-! instructions as predicate transformers -/
def oIload (i : Nat) (k : zS → Prop) : zS → Prop := fun σ => match σ.1[i]? with
  | some (some (.int x)) => k (σ.1, .int x :: σ.2.1, σ.2.2)
  | _ => False
def oAload (i : Nat) (k : zS → Prop) : zS → Prop := fun σ => match σ.1[i]? with
  | some (some (.ref x)) => k (σ.1, .ref x :: σ.2.1, σ.2.2)
  | _ => False
def oIstore (i : Nat) (k : zS → Prop) : zS → Prop := fun σ => match σ.2.1 with
  | .int x :: st => k (σ.1.set i (some (.int x)), st, σ.2.2)
  | _ => False
def oInc (i : Nat) (n : Int32) (k : zS → Prop) : zS → Prop := fun σ => match σ.1[i]? with
  | some (some (.int x)) => k (σ.1.set i (some (.int (x + n))), σ.2.1, σ.2.2)
  | _ => False
def oConst (v : Int32) (k : zS → Prop) : zS → Prop := fun σ => k (σ.1, .int v :: σ.2.1, σ.2.2)
def o2 (f : Int32 → Int32 → Int32) (k : zS → Prop) : zS → Prop := fun σ => match σ.2.1 with
  | .int y :: .int x :: st => k (σ.1, .int (f x y) :: st, σ.2.2)
  | _ => False
def oDup (k : zS → Prop) : zS → Prop := fun σ => match σ.2.1 with
  | v :: st => v.category = 1 ∧ k (σ.1, v :: v :: st, σ.2.2)
  | _ => False
def oPop (k : zS → Prop) : zS → Prop := fun σ => match σ.2.1 with
  | v :: st => v.category = 1 ∧ k (σ.1, st, σ.2.2)
  | _ => False
def oDupX1 (k : zS → Prop) : zS → Prop := fun σ => match σ.2.1 with
  | v :: w :: st => v.category = 1 ∧ w.category = 1 ∧ k (σ.1, v :: w :: v :: st, σ.2.2)
  | _ => False
def oDupX2 (k : zS → Prop) : zS → Prop := fun σ => match σ.2.1 with
  | v :: w :: u :: st => v.category = 1 ∧ w.category = 1 ∧ u.category = 1 ∧ k (σ.1, v :: w :: u :: v :: st, σ.2.2)
  | _ => False
def oDup2 (k : zS → Prop) : zS → Prop := fun σ => match σ.2.1 with
  | v :: w :: st => v.category = 1 ∧ w.category = 1 ∧ k (σ.1, v :: w :: v :: w :: st, σ.2.2)
  | _ => False
def oIf (c : Int32 → Prop) (kt kf : zS → Prop) : zS → Prop := fun σ => match σ.2.1 with
  | .int x :: st => (c x → kt (σ.1, st, σ.2.2)) ∧ (¬ c x → kf (σ.1, st, σ.2.2))
  | _ => False
def oCmp (c : Int32 → Int32 → Prop) (kt kf : zS → Prop) : zS → Prop := fun σ => match σ.2.1 with
  | .int y :: .int x :: st => (c x y → kt (σ.1, st, σ.2.2)) ∧ (¬ c x y → kf (σ.1, st, σ.2.2))
  | _ => False
def oIfN (kt kf : zS → Prop) : zS → Prop := fun σ => match σ.2.1 with
  | .int x :: st => (¬ x = 0 → kt (σ.1, st, σ.2.2)) ∧ (x = 0 → kf (σ.1, st, σ.2.2))
  | _ => False
def oCmpN (kt kf : zS → Prop) : zS → Prop := fun σ => match σ.2.1 with
  | .int y :: .int x :: st => (¬ x = y → kt (σ.1, st, σ.2.2)) ∧ (x = y → kf (σ.1, st, σ.2.2))
  | _ => False
def oSw (x : Int32) (kd : Prop) : List (Int32 × Prop) → Prop
  | [] => kd
  | (v, k) :: r => (x = v → k) ∧ (¬ x = v → oSw x kd r)
def oSwitch (cs : List (Int32 × (zS → Prop))) (kd : zS → Prop) : zS → Prop := fun σ => match σ.2.1 with
  | .int x :: st => oSw x (kd (σ.1, st, σ.2.2)) (cs.map fun q => (q.1, q.2 (σ.1, st, σ.2.2)))
  | _ => False
def oGetR (T : List zEn) (ci off : Nat) (k : zS → Prop) : zS → Prop := fun σ => match σ.2.1 with
  | .ref a :: st => zk T a ci ∧ k (σ.1, .ref (a + off) :: st, σ.2.2)
  | _ => False
def oGetI (T : List zEn) (ci j : Nat) (k : zS → Prop) : zS → Prop := fun σ => match σ.2.1 with
  | .ref a :: st => zk T a ci ∧ k (σ.1, .int (σ.2.2 a j) :: st, σ.2.2)
  | _ => False
def oPutI (T : List zEn) (ci j : Nat) (k : zS → Prop) : zS → Prop := fun σ => match σ.2.1 with
  | .int x :: .ref a :: st => zk T a ci ∧ k (σ.1, st, zU σ.2.2 a j x)
  | _ => False
def oPutZ (T : List zEn) (ci j : Nat) (k : zS → Prop) : zS → Prop := fun σ => match σ.2.1 with
  | .int x :: .ref a :: st => zk T a ci ∧ (x = 0 ∨ x = 1) ∧ k (σ.1, st, zU σ.2.2 a j x)
  | _ => False
def oIald (T : List zEn) (k : zS → Prop) : zS → Prop := fun σ => match σ.2.1 with
  | .int i :: .ref a :: st => ∃ n, i = nI n ∧ n < zn T 0 a ∧ k (σ.1, .int (σ.2.2 a n) :: st, σ.2.2)
  | _ => False
def oZald (T : List zEn) (k : zS → Prop) : zS → Prop := fun σ => match σ.2.1 with
  | .int i :: .ref a :: st => ∃ n, i = nI n ∧ n < zn T 1 a ∧ k (σ.1, .int (zb (σ.2.2 a n)) :: st, σ.2.2)
  | _ => False
def oIast (T : List zEn) (k : zS → Prop) : zS → Prop := fun σ => match σ.2.1 with
  | .int x :: .int i :: .ref a :: st => ∃ n, i = nI n ∧ n < zn T 0 a ∧ k (σ.1, st, zU σ.2.2 a n x)
  | _ => False
def oZast (T : List zEn) (k : zS → Prop) : zS → Prop := fun σ => match σ.2.1 with
  | .int x :: .int i :: .ref a :: st => ∃ n, i = nI n ∧ n < zn T 1 a ∧ (x = 0 ∨ x = 1) ∧ k (σ.1, st, zU σ.2.2 a n x)
  | _ => False
def oRetI (r : Option Value → zM → Prop) : zS → Prop := fun σ => match σ.2.1 with
  | [.int x] => r (some (.int x)) σ.2.2
  | _ => False
def oRetZ (r : Option Value → zM → Prop) : zS → Prop := fun σ => match σ.2.1 with
  | [.int x] => (x = 0 ∨ x = 1) ∧ r (some (.int x)) σ.2.2
  | _ => False
def oRetV (r : Option Value → zM → Prop) : zS → Prop := fun σ => match σ.2.1 with
  | [] => r none σ.2.2
  | _ => False
/-- a call: n words of the stack are its arguments (the receiver among them) -/
def oCall (S : List Value → zM → (Option Value → zM → Prop) → Prop) (n : Nat) (k : zS → Prop) : zS → Prop := fun σ =>
  n ≤ σ.2.1.length ∧ ((σ.2.1.drop n).map fun v => v.category).sum ≤ 8 ∧ S (σ.2.1.take n).reverse σ.2.2 (fun r g => k (σ.1, r.toList ++ σ.2.1.drop n, g))
def oRecv (T : List zEn) (ci n : Nat) (k : zS → Prop) : zS → Prop := fun σ => match σ.2.1[n - 1]? with
  | some (.ref a) => zk T a ci ∧ k σ
  | _ => False
/-! the machine behind them -/
def zCx (p : Program) (s : State) (m : MethodId) (args : Array Value) (c : Code) (cc : ByteArray) (nL : Nat) (own : String) (D : va_G) (cA : Nat → ClassId) (ad : Nat → Nat) (T : List zEn) : Prop :=
  p.tables.exec = Jvm.exec ∧ c.code = cc ∧ c.maxLocals = nL ∧ s.vm.findClass own = some m.cls ∧ (∀ w ∈ zWS, w.before args s = true) ∧ va_K D zCl [(cA 0, .int), (cA 1, .boolean), (cA 2, .long)] s ∧ zNw s ∧ zAp T ad
def zG (p : Program) (l : Launch) (e : Env) (R : Room) (s : State) (m : MethodId) (args : Array Value) (below : List Frame) (meth : Method) (c : Code) (nL : Nat) (D : va_G) (cA : Nat → ClassId) (ad : Nat → Nat) (T : List zEn) (H0 : Heap) (ce sl : Nat) (Q : State → Prop) (pc : Nat) (σ : zS) : Prop :=
  ∀ (H : Heap) (locs : List Loc) (la : Array Slot), va_P D zCl (zW ad cA σ.2.2 0 T) H → va_S (zA T ad) H0 H locs → zL ad la nL σ.1 → W p l e R s m args below meth c H locs ce sl Q (F0 m pc la (σ.2.1.map (zv ad)))
def zK (p : Program) (l : Launch) (e : Env) (R : Room) (s : State) (m : MethodId) (args : Array Value) (below : List Frame) (meth : Method) (c : Code) (nL : Nat) (D : va_G) (cA : Nat → ClassId) (ad : Nat → Nat) (T : List zEn) (H0 : Heap) (ce sl : Nat) (Q : State → Prop) (pc : Nat) (k : zS → Prop) : Prop :=
  ∀ σ, k σ → zG p l e R s m args below meth c nL D cA ad T H0 ce sl Q pc σ
section ZSN
variable {p : Program} {l : Launch} {e : Env} {R : Room} {s : State} {m : MethodId} {args : Array Value} {below : List Frame} {meth : Method} {c : Code} {cc : ByteArray} {nL : Nat} {own : String} {D : va_G} {cA : Nat → ClassId} {ad : Nat → Nat} {T : List zEn} {H0 : Heap} {ce sl : Nat} {Q : State → Prop}
variable {pc n i : Nat} {k kt kf : zS → Prop}
theorem sn_iload_n (hc : zCx p s m args c cc nL own D cA ad T) {f : Fin 4} (hd : decode cc pc = .ok (.iload_n f, 1)) (hi : (f : Nat) = i) (hk : zK p l e R s m args below meth c nL D cA ad T H0 ce sl Q (pc + 1) k) : zK p l e R s m args below meth c nL D cA ad T H0 ce sl Q pc (oIload i k) := by
  rintro ⟨ls, st, g⟩ h H locs la hP hS hl
  simp only [oIload] at h
  split at h
  · rename_i x hx
    exact lv_iload_n hc.1 hc.2.1 hd hi (hl.get hx) (hk _ h H locs la hP hS hl)
  · exact h.elim
theorem sn_iload (hc : zCx p s m args c cc nL own D cA ad T) (hd : decode cc pc = .ok (.iload i, 2)) (hk : zK p l e R s m args below meth c nL D cA ad T H0 ce sl Q (pc + 2) k) : zK p l e R s m args below meth c nL D cA ad T H0 ce sl Q pc (oIload i k) := by
  rintro ⟨ls, st, g⟩ h H locs la hP hS hl
  simp only [oIload] at h
  split at h
  · rename_i x hx
    exact lv_iload hc.1 hc.2.1 hd (hl.get hx) (hk _ h H locs la hP hS hl)
  · exact h.elim
theorem sn_aload_n (hc : zCx p s m args c cc nL own D cA ad T) {f : Fin 4} (hd : decode cc pc = .ok (.aload_n f, 1)) (hi : (f : Nat) = i) (hk : zK p l e R s m args below meth c nL D cA ad T H0 ce sl Q (pc + 1) k) : zK p l e R s m args below meth c nL D cA ad T H0 ce sl Q pc (oAload i k) := by
  rintro ⟨ls, st, g⟩ h H locs la hP hS hl
  simp only [oAload] at h
  split at h
  · rename_i x hx
    exact lv_aload_n hc.1 hc.2.1 hd hi (hl.get hx) (hk _ h H locs la hP hS hl)
  · exact h.elim
theorem sn_aload (hc : zCx p s m args c cc nL own D cA ad T) (hd : decode cc pc = .ok (.aload i, 2)) (hk : zK p l e R s m args below meth c nL D cA ad T H0 ce sl Q (pc + 2) k) : zK p l e R s m args below meth c nL D cA ad T H0 ce sl Q pc (oAload i k) := by
  rintro ⟨ls, st, g⟩ h H locs la hP hS hl
  simp only [oAload] at h
  split at h
  · rename_i x hx
    exact lv_aload hc.1 hc.2.1 hd (hl.get hx) (hk _ h H locs la hP hS hl)
  · exact h.elim
theorem sn_istore_n (hc : zCx p s m args c cc nL own D cA ad T) {f : Fin 4} (hd : decode cc pc = .ok (.istore_n f, 1)) (hi : (f : Nat) = i) (hn : i < nL) (hk : zK p l e R s m args below meth c nL D cA ad T H0 ce sl Q (pc + 1) k) : zK p l e R s m args below meth c nL D cA ad T H0 ce sl Q pc (oIstore i k) := by
  rintro ⟨ls, st, g⟩ h H locs la hP hS hl
  simp only [oIstore] at h
  split at h
  · rename_i x st'
    exact lv_istore_n hc.1 hc.2.1 hd hi hl.2.1 hn rfl (fun la' hl' => hk _ h H locs la' hP hS (hl.put (v := .int x) hn rfl hl'))
  · exact h.elim
theorem sn_istore (hc : zCx p s m args c cc nL own D cA ad T) (hd : decode cc pc = .ok (.istore i, 2)) (hn : i < nL) (hk : zK p l e R s m args below meth c nL D cA ad T H0 ce sl Q (pc + 2) k) : zK p l e R s m args below meth c nL D cA ad T H0 ce sl Q pc (oIstore i k) := by
  rintro ⟨ls, st, g⟩ h H locs la hP hS hl
  simp only [oIstore] at h
  split at h
  · rename_i x st'
    exact lv_istore hc.1 hc.2.1 hd hl.2.1 hn rfl (fun la' hl' => hk _ h H locs la' hP hS (hl.put (v := .int x) hn rfl hl'))
  · exact h.elim
theorem sn_iinc (hc : zCx p s m args c cc nL own D cA ad T) {z : Int} {v : Int32} (hd : decode cc pc = .ok (.iinc i z, 3)) (hv : Int32.ofInt z = v) (hn : i < nL) (hk : zK p l e R s m args below meth c nL D cA ad T H0 ce sl Q (pc + 3) k) : zK p l e R s m args below meth c nL D cA ad T H0 ce sl Q pc (oInc i v k) := by
  rintro ⟨ls, st, g⟩ h H locs la hP hS hl
  simp only [oInc] at h
  split at h
  · rename_i x hx
    obtain ⟨j, hj⟩ := List.getElem?_of_mem (zlv_mem (ad := ad) (ls := ls) (i := i) (w := .int x) |>.mpr ⟨_, hx, rfl⟩)
    exact lv_iinc hc.1 hc.2.1 hd hl.2.1 hj (by rw [hv]) hn rfl (fun la' hl' => hk _ h H locs la' hP hS (hl.put (v := .int (x + v)) hn rfl hl'))
  · exact h.elim
theorem sn_iconst (hc : zCx p s m args c cc nL own D cA ad T) {z : Int} {v : Int32} (hd : decode cc pc = .ok (.iconst z, 1)) (hv : Int32.ofInt z = v) (hk : zK p l e R s m args below meth c nL D cA ad T H0 ce sl Q (pc + 1) k) : zK p l e R s m args below meth c nL D cA ad T H0 ce sl Q pc (oConst v k) :=
  fun _ h H locs la hP hS hl => lv_iconst hc.1 hc.2.1 hd hv (hk _ h H locs la hP hS hl)
theorem sn_bipush (hc : zCx p s m args c cc nL own D cA ad T) {z : Int} {v : Int32} (hd : decode cc pc = .ok (.bipush z, 2)) (hv : (Int8.ofInt z).toInt32 = v) (hk : zK p l e R s m args below meth c nL D cA ad T H0 ce sl Q (pc + 2) k) : zK p l e R s m args below meth c nL D cA ad T H0 ce sl Q pc (oConst v k) :=
  fun _ h H locs la hP hS hl => lv_bipush hc.1 hc.2.1 hd hv (hk _ h H locs la hP hS hl)
theorem sn_sipush (hc : zCx p s m args c cc nL own D cA ad T) {z : Int} {v : Int32} (hd : decode cc pc = .ok (.sipush z, 3)) (hv : (Int16.ofInt z).toInt32 = v) (hk : zK p l e R s m args below meth c nL D cA ad T H0 ce sl Q (pc + 3) k) : zK p l e R s m args below meth c nL D cA ad T H0 ce sl Q pc (oConst v k) :=
  fun _ h H locs la hP hS hl => lv_sipush hc.1 hc.2.1 hd hv (hk _ h H locs la hP hS hl)
theorem sn_iadd (hc : zCx p s m args c cc nL own D cA ad T) (hd : decode cc pc = .ok (.iadd, 1)) (hk : zK p l e R s m args below meth c nL D cA ad T H0 ce sl Q (pc + 1) k) : zK p l e R s m args below meth c nL D cA ad T H0 ce sl Q pc (o2 (fun x y => x + y) k) := by
  rintro ⟨ls, st, g⟩ h H locs la hP hS hl
  simp only [o2] at h
  split at h
  · exact lv_iadd hc.1 hc.2.1 hd (hk _ h H locs la hP hS hl)
  · exact h.elim
theorem sn_isub (hc : zCx p s m args c cc nL own D cA ad T) (hd : decode cc pc = .ok (.isub, 1)) (hk : zK p l e R s m args below meth c nL D cA ad T H0 ce sl Q (pc + 1) k) : zK p l e R s m args below meth c nL D cA ad T H0 ce sl Q pc (o2 (fun x y => x - y) k) := by
  rintro ⟨ls, st, g⟩ h H locs la hP hS hl
  simp only [o2] at h
  split at h
  · exact lv_isub hc.1 hc.2.1 hd (hk _ h H locs la hP hS hl)
  · exact h.elim
theorem sn_imul (hc : zCx p s m args c cc nL own D cA ad T) (hd : decode cc pc = .ok (.imul, 1)) (hk : zK p l e R s m args below meth c nL D cA ad T H0 ce sl Q (pc + 1) k) : zK p l e R s m args below meth c nL D cA ad T H0 ce sl Q pc (o2 (fun x y => x * y) k) := by
  rintro ⟨ls, st, g⟩ h H locs la hP hS hl
  simp only [o2] at h
  split at h
  · exact lv_imul hc.1 hc.2.1 hd (hk _ h H locs la hP hS hl)
  · exact h.elim
theorem sn_iand (hc : zCx p s m args c cc nL own D cA ad T) (hd : decode cc pc = .ok (.iand, 1)) (hk : zK p l e R s m args below meth c nL D cA ad T H0 ce sl Q (pc + 1) k) : zK p l e R s m args below meth c nL D cA ad T H0 ce sl Q pc (o2 (fun x y => x &&& y) k) := by
  rintro ⟨ls, st, g⟩ h H locs la hP hS hl
  simp only [o2] at h
  split at h
  · exact lv_iand hc.1 hc.2.1 hd (hk _ h H locs la hP hS hl)
  · exact h.elim
theorem sn_ior (hc : zCx p s m args c cc nL own D cA ad T) (hd : decode cc pc = .ok (.ior, 1)) (hk : zK p l e R s m args below meth c nL D cA ad T H0 ce sl Q (pc + 1) k) : zK p l e R s m args below meth c nL D cA ad T H0 ce sl Q pc (o2 (fun x y => x ||| y) k) := by
  rintro ⟨ls, st, g⟩ h H locs la hP hS hl
  simp only [o2] at h
  split at h
  · exact lv_ior hc.1 hc.2.1 hd (hk _ h H locs la hP hS hl)
  · exact h.elim
theorem sn_ixor (hc : zCx p s m args c cc nL own D cA ad T) (hd : decode cc pc = .ok (.ixor, 1)) (hk : zK p l e R s m args below meth c nL D cA ad T H0 ce sl Q (pc + 1) k) : zK p l e R s m args below meth c nL D cA ad T H0 ce sl Q pc (o2 (fun x y => x ^^^ y) k) := by
  rintro ⟨ls, st, g⟩ h H locs la hP hS hl
  simp only [o2] at h
  split at h
  · exact lv_ixor hc.1 hc.2.1 hd (hk _ h H locs la hP hS hl)
  · exact h.elim
theorem sn_ishl (hc : zCx p s m args c cc nL own D cA ad T) (hd : decode cc pc = .ok (.ishl, 1)) (hk : zK p l e R s m args below meth c nL D cA ad T H0 ce sl Q (pc + 1) k) : zK p l e R s m args below meth c nL D cA ad T H0 ce sl Q pc (o2 (fun x y => x <<< (y &&& 31)) k) := by
  rintro ⟨ls, st, g⟩ h H locs la hP hS hl
  simp only [o2] at h
  split at h
  · exact lv_ishl hc.1 hc.2.1 hd (hk _ h H locs la hP hS hl)
  · exact h.elim
theorem sn_ishr (hc : zCx p s m args c cc nL own D cA ad T) (hd : decode cc pc = .ok (.ishr, 1)) (hk : zK p l e R s m args below meth c nL D cA ad T H0 ce sl Q (pc + 1) k) : zK p l e R s m args below meth c nL D cA ad T H0 ce sl Q pc (o2 (fun x y => x >>> (y &&& 31)) k) := by
  rintro ⟨ls, st, g⟩ h H locs la hP hS hl
  simp only [o2] at h
  split at h
  · exact lv_ishr hc.1 hc.2.1 hd (hk _ h H locs la hP hS hl)
  · exact h.elim
theorem sn_dup (hc : zCx p s m args c cc nL own D cA ad T) (hd : decode cc pc = .ok (.dup, 1)) (hk : zK p l e R s m args below meth c nL D cA ad T H0 ce sl Q (pc + 1) k) : zK p l e R s m args below meth c nL D cA ad T H0 ce sl Q pc (oDup k) := by
  rintro ⟨ls, st, g⟩ h H locs la hP hS hl
  simp only [oDup] at h
  split at h
  · obtain ⟨h1, h⟩ := h
    exact lv_dup hc.1 hc.2.1 hd (by rw [zv_cat]; exact h1) (hk _ h H locs la hP hS hl)
  · exact h.elim
theorem sn_pop (hc : zCx p s m args c cc nL own D cA ad T) (hd : decode cc pc = .ok (.pop, 1)) (hk : zK p l e R s m args below meth c nL D cA ad T H0 ce sl Q (pc + 1) k) : zK p l e R s m args below meth c nL D cA ad T H0 ce sl Q pc (oPop k) := by
  rintro ⟨ls, st, g⟩ h H locs la hP hS hl
  simp only [oPop] at h
  split at h
  · obtain ⟨h1, h⟩ := h
    exact lv_pop hc.1 hc.2.1 hd (by rw [zv_cat]; exact h1) (hk _ h H locs la hP hS hl)
  · exact h.elim
theorem sn_dup_x1 (hc : zCx p s m args c cc nL own D cA ad T) (hd : decode cc pc = .ok (.dup_x1, 1)) (hk : zK p l e R s m args below meth c nL D cA ad T H0 ce sl Q (pc + 1) k) : zK p l e R s m args below meth c nL D cA ad T H0 ce sl Q pc (oDupX1 k) := by
  rintro ⟨ls, st, g⟩ h H locs la hP hS hl
  simp only [oDupX1] at h
  split at h
  · obtain ⟨h1, h2, h⟩ := h
    exact lv_dup_x1 hc.1 hc.2.1 hd (by rw [zv_cat]; exact h1) (by rw [zv_cat]; exact h2) (hk _ h H locs la hP hS hl)
  · exact h.elim
theorem sn_dup_x2 (hc : zCx p s m args c cc nL own D cA ad T) (hd : decode cc pc = .ok (.dup_x2, 1)) (hk : zK p l e R s m args below meth c nL D cA ad T H0 ce sl Q (pc + 1) k) : zK p l e R s m args below meth c nL D cA ad T H0 ce sl Q pc (oDupX2 k) := by
  rintro ⟨ls, st, g⟩ h H locs la hP hS hl
  simp only [oDupX2] at h
  split at h
  · obtain ⟨h1, h2, h3, h⟩ := h
    exact lv_dup_x2 hc.1 hc.2.1 hd (by rw [zv_cat]; exact h1) (by rw [zv_cat]; exact h2) (by rw [zv_cat]; exact h3) (hk _ h H locs la hP hS hl)
  · exact h.elim
theorem sn_dup2 (hc : zCx p s m args c cc nL own D cA ad T) (hd : decode cc pc = .ok (.dup2, 1)) (hk : zK p l e R s m args below meth c nL D cA ad T H0 ce sl Q (pc + 1) k) : zK p l e R s m args below meth c nL D cA ad T H0 ce sl Q pc (oDup2 k) := by
  rintro ⟨ls, st, g⟩ h H locs la hP hS hl
  simp only [oDup2] at h
  split at h
  · obtain ⟨h1, h2, h⟩ := h
    exact lv_dup2_11 hc.1 hc.2.1 hd (by rw [zv_cat]; exact h1) (by rw [zv_cat]; exact h2) (hk _ h H locs la hP hS hl)
  · exact h.elim
theorem sn_if_eq (hc : zCx p s m args c cc nL own D cA ad T) {off : Int} {tgt : Nat} (hd : decode cc pc = .ok (.ifCond .eq off, 3)) (ht : (pc : Int) + off = (tgt : Int)) (hkt : zK p l e R s m args below meth c nL D cA ad T H0 ce sl Q tgt kt) (hkf : zK p l e R s m args below meth c nL D cA ad T H0 ce sl Q (pc + 3) kf) : zK p l e R s m args below meth c nL D cA ad T H0 ce sl Q pc (oIf (fun x => x = 0) kt kf) := by
  rintro ⟨ls, st, g⟩ h H locs la hP hS hl
  simp only [oIf] at h
  split at h
  · exact lv_if_eq hc.1 hc.2.1 hd ht (fun hx => hkt _ (h.1 hx) H locs la hP hS hl) (fun hx => hkf _ (h.2 hx) H locs la hP hS hl)
  · exact h.elim
theorem sn_if_ne (hc : zCx p s m args c cc nL own D cA ad T) {off : Int} {tgt : Nat} (hd : decode cc pc = .ok (.ifCond .ne off, 3)) (ht : (pc : Int) + off = (tgt : Int)) (hkt : zK p l e R s m args below meth c nL D cA ad T H0 ce sl Q tgt kt) (hkf : zK p l e R s m args below meth c nL D cA ad T H0 ce sl Q (pc + 3) kf) : zK p l e R s m args below meth c nL D cA ad T H0 ce sl Q pc (oIfN kt kf) := by
  rintro ⟨ls, st, g⟩ h H locs la hP hS hl
  simp only [oIfN] at h
  split at h
  · exact lv_if_ne hc.1 hc.2.1 hd ht (fun hx => hkt _ (h.1 hx) H locs la hP hS hl) (fun hx => hkf _ (h.2 hx) H locs la hP hS hl)
  · exact h.elim
theorem sn_if_lt (hc : zCx p s m args c cc nL own D cA ad T) {off : Int} {tgt : Nat} (hd : decode cc pc = .ok (.ifCond .lt off, 3)) (ht : (pc : Int) + off = (tgt : Int)) (hkt : zK p l e R s m args below meth c nL D cA ad T H0 ce sl Q tgt kt) (hkf : zK p l e R s m args below meth c nL D cA ad T H0 ce sl Q (pc + 3) kf) : zK p l e R s m args below meth c nL D cA ad T H0 ce sl Q pc (oIf (fun x => x < 0) kt kf) := by
  rintro ⟨ls, st, g⟩ h H locs la hP hS hl
  simp only [oIf] at h
  split at h
  · exact lv_if_lt hc.1 hc.2.1 hd ht (fun hx => hkt _ (h.1 hx) H locs la hP hS hl) (fun hx => hkf _ (h.2 hx) H locs la hP hS hl)
  · exact h.elim
theorem sn_if_ge (hc : zCx p s m args c cc nL own D cA ad T) {off : Int} {tgt : Nat} (hd : decode cc pc = .ok (.ifCond .ge off, 3)) (ht : (pc : Int) + off = (tgt : Int)) (hkt : zK p l e R s m args below meth c nL D cA ad T H0 ce sl Q tgt kt) (hkf : zK p l e R s m args below meth c nL D cA ad T H0 ce sl Q (pc + 3) kf) : zK p l e R s m args below meth c nL D cA ad T H0 ce sl Q pc (oIf (fun x => 0 ≤ x) kt kf) := by
  rintro ⟨ls, st, g⟩ h H locs la hP hS hl
  simp only [oIf] at h
  split at h
  · exact lv_if_ge hc.1 hc.2.1 hd ht (fun hx => hkt _ (h.1 hx) H locs la hP hS hl) (fun hx => hkf _ (h.2 hx) H locs la hP hS hl)
  · exact h.elim
theorem sn_if_gt (hc : zCx p s m args c cc nL own D cA ad T) {off : Int} {tgt : Nat} (hd : decode cc pc = .ok (.ifCond .gt off, 3)) (ht : (pc : Int) + off = (tgt : Int)) (hkt : zK p l e R s m args below meth c nL D cA ad T H0 ce sl Q tgt kt) (hkf : zK p l e R s m args below meth c nL D cA ad T H0 ce sl Q (pc + 3) kf) : zK p l e R s m args below meth c nL D cA ad T H0 ce sl Q pc (oIf (fun x => 0 < x) kt kf) := by
  rintro ⟨ls, st, g⟩ h H locs la hP hS hl
  simp only [oIf] at h
  split at h
  · exact lv_if_gt hc.1 hc.2.1 hd ht (fun hx => hkt _ (h.1 hx) H locs la hP hS hl) (fun hx => hkf _ (h.2 hx) H locs la hP hS hl)
  · exact h.elim
theorem sn_if_le (hc : zCx p s m args c cc nL own D cA ad T) {off : Int} {tgt : Nat} (hd : decode cc pc = .ok (.ifCond .le off, 3)) (ht : (pc : Int) + off = (tgt : Int)) (hkt : zK p l e R s m args below meth c nL D cA ad T H0 ce sl Q tgt kt) (hkf : zK p l e R s m args below meth c nL D cA ad T H0 ce sl Q (pc + 3) kf) : zK p l e R s m args below meth c nL D cA ad T H0 ce sl Q pc (oIf (fun x => x ≤ 0) kt kf) := by
  rintro ⟨ls, st, g⟩ h H locs la hP hS hl
  simp only [oIf] at h
  split at h
  · exact lv_if_le hc.1 hc.2.1 hd ht (fun hx => hkt _ (h.1 hx) H locs la hP hS hl) (fun hx => hkf _ (h.2 hx) H locs la hP hS hl)
  · exact h.elim
theorem sn_icmp_eq (hc : zCx p s m args c cc nL own D cA ad T) {off : Int} {tgt : Nat} (hd : decode cc pc = .ok (.if_icmp .eq off, 3)) (ht : (pc : Int) + off = (tgt : Int)) (hkt : zK p l e R s m args below meth c nL D cA ad T H0 ce sl Q tgt kt) (hkf : zK p l e R s m args below meth c nL D cA ad T H0 ce sl Q (pc + 3) kf) : zK p l e R s m args below meth c nL D cA ad T H0 ce sl Q pc (oCmp (fun x y => x = y) kt kf) := by
  rintro ⟨ls, st, g⟩ h H locs la hP hS hl
  simp only [oCmp] at h
  split at h
  · exact lv_icmp_eq hc.1 hc.2.1 hd ht (fun hx => hkt _ (h.1 hx) H locs la hP hS hl) (fun hx => hkf _ (h.2 hx) H locs la hP hS hl)
  · exact h.elim
theorem sn_icmp_ne (hc : zCx p s m args c cc nL own D cA ad T) {off : Int} {tgt : Nat} (hd : decode cc pc = .ok (.if_icmp .ne off, 3)) (ht : (pc : Int) + off = (tgt : Int)) (hkt : zK p l e R s m args below meth c nL D cA ad T H0 ce sl Q tgt kt) (hkf : zK p l e R s m args below meth c nL D cA ad T H0 ce sl Q (pc + 3) kf) : zK p l e R s m args below meth c nL D cA ad T H0 ce sl Q pc (oCmpN kt kf) := by
  rintro ⟨ls, st, g⟩ h H locs la hP hS hl
  simp only [oCmpN] at h
  split at h
  · exact lv_icmp_ne hc.1 hc.2.1 hd ht (fun hx => hkt _ (h.1 hx) H locs la hP hS hl) (fun hx => hkf _ (h.2 hx) H locs la hP hS hl)
  · exact h.elim
theorem sn_icmp_lt (hc : zCx p s m args c cc nL own D cA ad T) {off : Int} {tgt : Nat} (hd : decode cc pc = .ok (.if_icmp .lt off, 3)) (ht : (pc : Int) + off = (tgt : Int)) (hkt : zK p l e R s m args below meth c nL D cA ad T H0 ce sl Q tgt kt) (hkf : zK p l e R s m args below meth c nL D cA ad T H0 ce sl Q (pc + 3) kf) : zK p l e R s m args below meth c nL D cA ad T H0 ce sl Q pc (oCmp (fun x y => x < y) kt kf) := by
  rintro ⟨ls, st, g⟩ h H locs la hP hS hl
  simp only [oCmp] at h
  split at h
  · exact lv_icmp_lt hc.1 hc.2.1 hd ht (fun hx => hkt _ (h.1 hx) H locs la hP hS hl) (fun hx => hkf _ (h.2 hx) H locs la hP hS hl)
  · exact h.elim
theorem sn_icmp_ge (hc : zCx p s m args c cc nL own D cA ad T) {off : Int} {tgt : Nat} (hd : decode cc pc = .ok (.if_icmp .ge off, 3)) (ht : (pc : Int) + off = (tgt : Int)) (hkt : zK p l e R s m args below meth c nL D cA ad T H0 ce sl Q tgt kt) (hkf : zK p l e R s m args below meth c nL D cA ad T H0 ce sl Q (pc + 3) kf) : zK p l e R s m args below meth c nL D cA ad T H0 ce sl Q pc (oCmp (fun x y => y ≤ x) kt kf) := by
  rintro ⟨ls, st, g⟩ h H locs la hP hS hl
  simp only [oCmp] at h
  split at h
  · exact lv_icmp_ge hc.1 hc.2.1 hd ht (fun hx => hkt _ (h.1 hx) H locs la hP hS hl) (fun hx => hkf _ (h.2 hx) H locs la hP hS hl)
  · exact h.elim
theorem sn_icmp_gt (hc : zCx p s m args c cc nL own D cA ad T) {off : Int} {tgt : Nat} (hd : decode cc pc = .ok (.if_icmp .gt off, 3)) (ht : (pc : Int) + off = (tgt : Int)) (hkt : zK p l e R s m args below meth c nL D cA ad T H0 ce sl Q tgt kt) (hkf : zK p l e R s m args below meth c nL D cA ad T H0 ce sl Q (pc + 3) kf) : zK p l e R s m args below meth c nL D cA ad T H0 ce sl Q pc (oCmp (fun x y => y < x) kt kf) := by
  rintro ⟨ls, st, g⟩ h H locs la hP hS hl
  simp only [oCmp] at h
  split at h
  · exact lv_icmp_gt hc.1 hc.2.1 hd ht (fun hx => hkt _ (h.1 hx) H locs la hP hS hl) (fun hx => hkf _ (h.2 hx) H locs la hP hS hl)
  · exact h.elim
theorem sn_icmp_le (hc : zCx p s m args c cc nL own D cA ad T) {off : Int} {tgt : Nat} (hd : decode cc pc = .ok (.if_icmp .le off, 3)) (ht : (pc : Int) + off = (tgt : Int)) (hkt : zK p l e R s m args below meth c nL D cA ad T H0 ce sl Q tgt kt) (hkf : zK p l e R s m args below meth c nL D cA ad T H0 ce sl Q (pc + 3) kf) : zK p l e R s m args below meth c nL D cA ad T H0 ce sl Q pc (oCmp (fun x y => x ≤ y) kt kf) := by
  rintro ⟨ls, st, g⟩ h H locs la hP hS hl
  simp only [oCmp] at h
  split at h
  · exact lv_icmp_le hc.1 hc.2.1 hd ht (fun hx => hkt _ (h.1 hx) H locs la hP hS hl) (fun hx => hkf _ (h.2 hx) H locs la hP hS hl)
  · exact h.elim
theorem sn_goto (hc : zCx p s m args c cc nL own D cA ad T) {off : Int} {tgt : Nat} (hd : decode cc pc = .ok (.goto off, 3)) (ht : (pc : Int) + off = (tgt : Int)) (hk : zK p l e R s m args below meth c nL D cA ad T H0 ce sl Q tgt k) : zK p l e R s m args below meth c nL D cA ad T H0 ce sl Q pc k :=
  fun _ h H locs la hP hS hl => lv_goto hc.1 hc.2.1 hd ht (hk _ h H locs la hP hS hl)
/-- what an instruction that names a field rests on -/
def zFd (own : String) (ix ci j : Nat) : Prop := ∃ (C : String) (F : u_T) (N : Nat), zCl[ci]? = some (C, F, N) ∧ (∀ w ∈ u_ws C F N, w ∈ zWS) ∧ j < N ∧ Cond.fieldLink own ix (F j).1 (F j).2.1 (F j).2.2.1 ∈ zWS
def zFp (own : String) (ix ci j : Nat) (ty : FieldType) : Prop := ∃ (C : String) (F : u_T) (N : Nat) (ty0 : Nat → FieldType), zCl[ci]? = some (C, F, N) ∧ (∀ w ∈ u_ws C F N, w ∈ zWS) ∧ j < N ∧ Cond.fieldLink own ix (F j).1 (F j).2.1 (F j).2.2.1 ∈ zWS ∧
  (∀ k, k < N → parseFieldDescriptor (F k).2.2.1 = some (ty0 k)) ∧ (∀ a, a < N → ∀ b, b < N → a ≠ b → (F a).2.1 ≠ (F b).2.1) ∧ (F j).2.2.2 = false ∧ parseFieldDescriptor (F j).2.2.1 = some ty
theorem zW_at {g : zM} {a : Nat} {en : zEn} (h : T[a]? = some en) : (zW ad cA g 0 T)[a]? = some (ad a, zE ad cA a (g a) en) := by
  have h1 := zW_get (ad := ad) (cA := cA) (g := g) T 0 a en h
  rwa [Nat.zero_add] at h1
theorem sn_getR (hc : zCx p s m args c cc nL own D cA ad T) {ix ci j off : Nat} (hd : decode cc pc = .ok (.getfield ix, 3)) (hf : zFd own ix ci j) (ho : (zFT ci)[j]? = some (some off)) (hk : zK p l e R s m args below meth c nL D cA ad T H0 ce sl Q (pc + 3) k) : zK p l e R s m args below meth c nL D cA ad T H0 ce sl Q pc (oGetR T ci off k) := by
  rintro ⟨ls, st, g⟩ h H locs la hP hS hl
  simp only [oGetR] at h
  split at h
  · rename_i a st'
    obtain ⟨hz, h⟩ := h
    obtain ⟨C, F, N, e1, e2, e3, e4⟩ := hf
    exact va_get hc.1 hc.2.1 hc.2.2.2.2.1 e2 hc.2.2.2.1 hc.2.2.2.2.2.1 hP a (zW_at hz) e1 j e3 (hc.2.2.2.2.1 _ e4) (fun _ h9 => h9) (by rw [zfs_get, ho]; rfl) hd (hk _ h H locs la hP hS hl)
  · exact h.elim
theorem sn_getI (hc : zCx p s m args c cc nL own D cA ad T) {ix ci j : Nat} (hd : decode cc pc = .ok (.getfield ix, 3)) (hf : zFd own ix ci j) (ho : (zFT ci)[j]? = some none) (hk : zK p l e R s m args below meth c nL D cA ad T H0 ce sl Q (pc + 3) k) : zK p l e R s m args below meth c nL D cA ad T H0 ce sl Q pc (oGetI T ci j k) := by
  rintro ⟨ls, st, g⟩ h H locs la hP hS hl
  simp only [oGetI] at h
  split at h
  · rename_i a st'
    obtain ⟨hz, h⟩ := h
    obtain ⟨C, F, N, e1, e2, e3, e4⟩ := hf
    exact va_get hc.1 hc.2.1 hc.2.2.2.2.1 e2 hc.2.2.2.1 hc.2.2.2.2.2.1 hP a (zW_at hz) e1 j e3 (hc.2.2.2.2.1 _ e4) (fun _ h9 => h9) (v := .int (g a j)) (by rw [zfs_get, ho]; simp) hd (hk _ h H locs la hP hS hl)
  · exact h.elim
theorem zput {g : zM} {a ci j : Nat} {x : Int32} (hz : zk T a ci) (ho : (zFT ci)[j]? = some none) : (zW ad cA g 0 T).set a (ad a, .inr (ci, (zfs ad a (g a) 0 (zFT ci)).set j (.int x))) = zW ad cA (zU g a j x) 0 T := by
  have h := zW_set (ad := ad) (cA := cA) (g := g) (g' := zU g a j x) (en := .inr (ci, (zfs ad a (g a) 0 (zFT ci)).set j (.int x))) T 0 a (.inr ci) hz (fun y hy => zU_ne g a j x (by rwa [Nat.zero_add] at hy)) (by
    rw [Nat.zero_add]
    show _ = Sum.inr (ci, zfs ad a (zU g a j x a) 0 (zFT ci))
    rw [zfs_set (zFT ci) (g a) (zU g a j x a) 0 j ho (by rw [Nat.zero_add]; exact zU_at g a j x) (fun y hy => zU_off g a j x (by rwa [Nat.zero_add] at hy))])
  rwa [Nat.zero_add] at h
theorem sn_putI (hc : zCx p s m args c cc nL own D cA ad T) {ix ci j : Nat} (hd : decode cc pc = .ok (.putfield ix, 3)) (hf : zFp own ix ci j .int) (ho : (zFT ci)[j]? = some none) (hk : zK p l e R s m args below meth c nL D cA ad T H0 ce sl Q (pc + 3) k) : zK p l e R s m args below meth c nL D cA ad T H0 ce sl Q pc (oPutI T ci j k) := by
  rintro ⟨ls, st, g⟩ h H locs la hP hS hl
  simp only [oPutI] at h
  split at h
  · rename_i x a st'
    obtain ⟨hz, h⟩ := h
    obtain ⟨C, F, N, ty0, e1, e2, e3, e4, e5, e6, e7, e8⟩ := hf
    refine va_put hc.1 hc.2.1 hc.2.2.2.2.1 e2 ty0 e5 e6 hc.2.2.2.1 hc.2.2.2.2.2.1 hP (zD hc.2.2.2.2.2.2.2) hS a (zW_at hz) e1 j e3 (hc.2.2.2.2.1 _ e4) (fun _ h9 => h9) e7 e8 (v := .int x) rfl rfl (by rw [zfs_len]; exact (List.getElem?_eq_some_iff.mp ho).1) hd (fun H1 locs1 hP1 _ hS1 => ?_)
    rw [zput hz ho] at hP1
    exact hk _ h H1 locs1 la hP1 hS1 hl
  · exact h.elim
theorem sn_putZ (hc : zCx p s m args c cc nL own D cA ad T) {ix ci j : Nat} (hd : decode cc pc = .ok (.putfield ix, 3)) (hf : zFp own ix ci j .boolean) (ho : (zFT ci)[j]? = some none) (hk : zK p l e R s m args below meth c nL D cA ad T H0 ce sl Q (pc + 3) k) : zK p l e R s m args below meth c nL D cA ad T H0 ce sl Q pc (oPutZ T ci j k) := by
  rintro ⟨ls, st, g⟩ h H locs la hP hS hl
  simp only [oPutZ] at h
  split at h
  · rename_i x a st'
    obtain ⟨hz, hx, h⟩ := h
    obtain ⟨C, F, N, ty0, e1, e2, e3, e4, e5, e6, e7, e8⟩ := hf
    refine va_put hc.1 hc.2.1 hc.2.2.2.2.1 e2 ty0 e5 e6 hc.2.2.2.1 hc.2.2.2.2.2.1 hP (zD hc.2.2.2.2.2.2.2) hS a (zW_at hz) e1 j e3 (hc.2.2.2.2.1 _ e4) (fun _ h9 => h9) e7 e8 (v := .int x) (by rcases hx with rfl | rfl <;> rfl) (by rcases hx with rfl | rfl <;> rfl) (by rw [zfs_len]; exact (List.getElem?_eq_some_iff.mp ho).1) hd (fun H1 locs1 hP1 _ hS1 => ?_)
    rw [zput hz ho] at hP1
    exact hk _ h H1 locs1 la hP1 hS1 hl
  · exact h.elim
theorem zn_lt31 {i a : Nat} {b : Nat} (hT : ∀ (a : Nat) (b : Nat), zn T b a < 2 ^ 31) (h : i < zn T b a) : i < 2 ^ 31 := Nat.lt_trans h (hT a b)
theorem sn_iald (hc : zCx p s m args c cc nL own D cA ad T) (hT : ∀ (a : Nat) (b : Nat), zn T b a < 2 ^ 31) (hd : decode cc pc = .ok (.iaload, 1)) (hk : zK p l e R s m args below meth c nL D cA ad T H0 ce sl Q (pc + 1) k) : zK p l e R s m args below meth c nL D cA ad T H0 ce sl Q pc (oIald T k) := by
  rintro ⟨ls, st, g⟩ h H locs la hP hS hl
  simp only [oIald] at h
  split at h
  · rename_i i a st'
    obtain ⟨n, rfl, hn, h⟩ := h
    refine va_iald hc.1 hc.2.1 hc.2.2.2.2.2.1 hP a 0 (zW_at (zn_of hn)) rfl (vp_in_nI hn (hT a 0)) hd ?_
    rw [nI_clamp (zn_lt31 hT hn)]
    exact hk _ h H locs la hP hS hl
  · exact h.elim
theorem sn_zald (hc : zCx p s m args c cc nL own D cA ad T) (hT : ∀ (a : Nat) (b : Nat), zn T b a < 2 ^ 31) (hd : decode cc pc = .ok (.baload, 1)) (hk : zK p l e R s m args below meth c nL D cA ad T H0 ce sl Q (pc + 1) k) : zK p l e R s m args below meth c nL D cA ad T H0 ce sl Q pc (oZald T k) := by
  rintro ⟨ls, st, g⟩ h H locs la hP hS hl
  simp only [oZald] at h
  split at h
  · rename_i i a st'
    obtain ⟨n, rfl, hn, h⟩ := h
    refine va_zald hc.1 hc.2.1 hc.2.2.2.2.2.1 hP a 1 (zW_at (zn_of hn)) rfl (vp_in_nI hn (hT a 1)) hd ?_
    rw [nI_clamp (zn_lt31 hT hn)]
    exact hk _ h H locs la hP hS hl
  · exact h.elim
theorem sn_iast (hc : zCx p s m args c cc nL own D cA ad T) (hT : ∀ (a : Nat) (b : Nat), zn T b a < 2 ^ 31) (hd : decode cc pc = .ok (.iastore, 1)) (hk : zK p l e R s m args below meth c nL D cA ad T H0 ce sl Q (pc + 1) k) : zK p l e R s m args below meth c nL D cA ad T H0 ce sl Q pc (oIast T k) := by
  rintro ⟨ls, st, g⟩ h H locs la hP hS hl
  simp only [oIast] at h
  split at h
  · rename_i x i a st'
    obtain ⟨n, rfl, hn, h⟩ := h
    refine va_iast hc.1 hc.2.1 hc.2.2.2.2.2.1 hP (zD hc.2.2.2.2.2.2.2) hS a 0 (zW_at (zn_of hn)) rfl (vp_in_nI hn (hT a 0)) hd (fun H1 locs1 hP1 _ hS1 => ?_)
    rw [nI_clamp (zn_lt31 hT hn)] at hP1
    have h2 := zW_set (ad := ad) (cA := cA) (g := g) (g' := zU g a n x) (en := .inl (cA 0, zn T 0 a, .inl (upd (g a) n x))) T 0 a _ (zn_of hn) (fun y hy => zU_ne g a n x (by rwa [Nat.zero_add] at hy)) (by
      rw [Nat.zero_add]
      show _ = Sum.inl (cA 0, zn T 0 a, Sum.inl (zU g a n x a))
      rw [zU_self])
    rw [Nat.zero_add] at h2
    rw [h2] at hP1
    exact hk _ h H1 locs1 la hP1 hS1 hl
  · exact h.elim
theorem zb_nar {x : Int32} (hx : x = 0 ∨ x = 1) : vp_nar .boolean x = zb x := by rcases hx with rfl | rfl <;> rfl
theorem sn_zast (hc : zCx p s m args c cc nL own D cA ad T) (hT : ∀ (a : Nat) (b : Nat), zn T b a < 2 ^ 31) (hd : decode cc pc = .ok (.bastore, 1)) (hk : zK p l e R s m args below meth c nL D cA ad T H0 ce sl Q (pc + 1) k) : zK p l e R s m args below meth c nL D cA ad T H0 ce sl Q pc (oZast T k) := by
  rintro ⟨ls, st, g⟩ h H locs la hP hS hl
  simp only [oZast] at h
  split at h
  · rename_i x i a st'
    obtain ⟨n, rfl, hn, hx, h⟩ := h
    refine va_zast hc.1 hc.2.1 hc.2.2.2.2.2.1 hP (zD hc.2.2.2.2.2.2.2) hS a 1 (zW_at (zn_of hn)) rfl (vp_in_nI hn (hT a 1)) hd (fun H1 locs1 hP1 _ hS1 => ?_)
    rw [nI_clamp (zn_lt31 hT hn)] at hP1
    have h2 := zW_set (ad := ad) (cA := cA) (g := g) (g' := zU g a n x) (en := .inl (cA 1, zn T 1 a, .inl (upd (fun j => zb (g a j)) n (vp_nar .boolean x)))) T 0 a _ (zn_of hn) (fun y hy => zU_ne g a n x (by rwa [Nat.zero_add] at hy)) (by
      rw [Nat.zero_add]
      show _ = Sum.inl (cA 1, zn T 1 a, Sum.inl fun j => zb (zU g a n x a j))
      rw [zU_self, zb_nar hx]
      have : upd (fun j => zb (g a j)) n (zb x) = fun j => zb (upd (g a) n x j) := by
        funext j
        simp only [upd]
        split <;> rfl
      rw [this])
    rw [Nat.zero_add] at h2
    rw [h2] at hP1
    exact hk _ h H1 locs1 la hP1 hS1 hl
  · exact h.elim
end ZSN
