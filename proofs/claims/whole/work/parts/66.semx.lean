/-! methods that may throw, over the abstract memory; longs; handlers -/
def zEN : List String := ["java/lang/RuntimeException", "java/lang/Exception"]
def xIA : String := "java/lang/IllegalArgumentException"
def xIS : String := "java/lang/IllegalStateException"
def xIO : String := "java/lang/IndexOutOfBoundsException"
def xUO : String := "java/lang/UnsupportedOperationException"
/-- words of the tables that no list of good words holds -/
def zXL : List Cond := [.castable xIA xIA, .castable xIS xIS, .castable xIO xIO, .castable xUO xUO, .declares ⟨"java/lang/RuntimeException", "<init>", "(Ljava/lang/String;)V"⟩, .declares ⟨"java/lang/Exception", "<init>", "(Ljava/lang/String;)V"⟩, .declares ⟨"java/lang/Throwable", "<init>", "(Ljava/lang/String;)V"⟩]
def zNC : List (String × String) := [(xIS, xIA), (xUO, xIO)]
/-- what a throw and a catch need of the world -/
def zTx (A : Nat → Prop) (U : State) (H : Heap) : Prop := vx_Zq Bundle.tN "UNASSIGNED_STACK" Bundle.steD A U H ∧ vx_Zq Bundle.tN "SUPPRESSED_SENTINEL" Bundle.listD A U H ∧ (∀ q ∈ zTxt, ∃ sa, vk_R rr_X q.1 q.2 sa U) ∧ (∀ w ∈ zXL, va_Nw w U) ∧ ∀ q ∈ zNC, va_Nc q.1 q.2 U
theorem zTx.to {A : Nat → Prop} {u U : State} {H0 H : Heap} (hW : u.WarmedH U.vm) (hk : ∀ a : Nat, a < H0.size → ¬ A a → H[a]? = H0[a]?) (h : zTx A u H0) : zTx A U H := by
  obtain ⟨h1, h2, h3, h4, h5⟩ := h
  refine ⟨vx_Zq.moved hW.alike (h1.kept hk), vx_Zq.moved hW.alike (h2.kept hk), fun q hq => ?_, fun w hw => ?_, fun q hq => va_Nc.moved hW.alike (h5 q hq)⟩
  · obtain ⟨sa, hs⟩ := h3 q hq
    exact ⟨sa, vk_R.warm hW hs⟩
  · have h6 := h4 w hw
    simp only [zXL, List.mem_cons, List.not_mem_nil, or_false] at hw
    rcases hw with rfl | rfl | rfl | rfl | rfl | rfl | rfl
    · exact va_Nw.warmC hW h6
    · exact va_Nw.warmC hW h6
    · exact va_Nw.warmC hW h6
    · exact va_Nw.warmC hW h6
    · exact va_Nw.warmD hW h6
    · exact va_Nw.warmD hW h6
    · exact va_Nw.warmD hW h6
theorem zTx.narrow {A B : Nat → Prop} {U : State} {H : Heap} (h : zTx A U H) (hAB : ∀ q, B q → A q) : zTx B U H :=
  ⟨h.1.narrow hAB, h.2.1.narrow hAB, h.2.2⟩
def zRx (d : Nat) : Room := { frames := d + 6, cells := 1, slots := 6, locals := 64 * d + 128 }
def zPx (as : List Value) (g : zM) (D : va_G) (ad : Nat → Nat) (cA : Nat → ClassId) (T : List zEn) : Array Value → State → Prop := va_Pc (as.map (zv ad)) (fun U => zB g D ad cA T U ∧ zTx (zA T ad) U U.heap)
def zXc (px : String → zM → Prop) (D : va_G) (ad : Nat → Nat) (cA : Nat → ClassId) (T : List zEn) : String → State → State → Prop := fun E st t => ∃ g : zM, px E g ∧ va_P D zCl (zW ad cA g 0 T) t.heap ∧ va_F (zA T ad) st t
def SemX (l : Launch) (T : List zEn) (ws : List Cond) (d : Nat) (y : MethodName) (as : List Value) (g : zM) (post : Option Value → zM → Prop) (px : String → zM → Prop) : Prop :=
  ∀ (D : va_G) (ad : Nat → Nat) (cA : Nat → ClassId), vx_Met l y ws (zRx d) (zPx as g D ad cA T) (zQc post D ad cA T) (zXc px D ad cA T) 1 6 (zA T ad)
/-- a method with a table of its own, which lets nothing out -/
def SemH (l : Launch) (T : List zEn) (ws : List Cond) (d : Nat) (y : MethodName) (as : List Value) (g : zM) (post : Option Value → zM → Prop) : Prop :=
  ∀ (D : va_G) (ad : Nat → Nat) (cA : Nat → ClassId), Met l y ws (zRx d) (zPx as g D ad cA T) (zQc post D ad cA T) 1 6 (zA T ad)
theorem zPx_blind {as : List Value} {g : zM} {D : va_G} {ad : Nat → Nat} {cA : Nat → ClassId} {T : List zEn} : FrameBlind (zPx as g D ad cA T) := by
  intro a U f mk q
  obtain ⟨q0, ⟨qP, qK, qN, qA⟩, qX⟩ := q
  exact ⟨q0, ⟨qP, va_K.moved (u := U) (U := U.calling f mk a) (Vm.Alike.refl U.vm) qK, zNw.same rfl qN, qA⟩, zTx.to (u := U) (U := U.calling f mk a) (State.WarmedH.refl U) (fun _ _ _ => rfl) qX⟩
def oCallX (S : List Value → zM → (Option Value → zM → Prop) → (String → zM → Prop) → Prop) (n : Nat) (k : zS → Prop) (kx : String → zS → Prop) : zS → Prop := fun σ =>
  n ≤ σ.2.1.length ∧ ((σ.2.1.drop n).map fun v => v.category).sum ≤ 8 ∧ S (σ.2.1.take n).reverse σ.2.2 (fun r g => k (σ.1, r.toList ++ σ.2.1.drop n, g)) (fun E g => kx E (σ.1, σ.2.1.drop n, g))
def oThr (E : String) (px : String → zM → Prop) : zS → Prop := fun σ => σ.2.1 = [] ∧ px E σ.2.2
def oI2l (k : zS → Prop) : zS → Prop := fun σ => match σ.2.1 with
  | .int x :: st => k (σ.1, .long x.toInt64 :: st, σ.2.2)
  | _ => False
def oLc (v : Int32) (k : zS → Prop) : zS → Prop := fun σ => k (σ.1, .long v.toInt64 :: σ.2.1, σ.2.2)
def oLcmp (k : zS → Prop) : zS → Prop := fun σ => match σ.2.1 with
  | .long y :: .long x :: st => ∀ v : Int32, (v = 0 ↔ x = y) → k (σ.1, .int v :: st, σ.2.2)
  | _ => False
def oLald (T : List zEn) (k : zS → Prop) : zS → Prop := fun σ => match σ.2.1 with
  | .int i :: .ref a :: st => ∃ n, i = nI n ∧ n < zn T 2 a ∧ k (σ.1, .long (σ.2.2 a n).toInt64 :: st, σ.2.2)
  | _ => False
def oLast (T : List zEn) (k : zS → Prop) : zS → Prop := fun σ => match σ.2.1 with
  | .long x :: .int i :: .ref a :: st => ∃ n w, i = nI n ∧ n < zn T 2 a ∧ x = Int32.toInt64 w ∧ k (σ.1, st, zU σ.2.2 a n w)
  | _ => False
/-! the law's own: its script stands at the abstract cell 47, outside the layout -/
def oSld (S : Nat → Int32) (L : Nat) (k : zS → Prop) : zS → Prop := fun σ => match σ.2.1 with
  | .int i :: .ref a :: st => a = 47 ∧ ∃ n, i = nI n ∧ n < L ∧ k (σ.1, .int (S n) :: st, σ.2.2)
  | _ => False
def oSlen (L : Nat) (k : zS → Prop) : zS → Prop := fun σ => match σ.2.1 with
  | .ref a :: st => a = 47 ∧ k (σ.1, .int (nI L) :: st, σ.2.2)
  | _ => False
def oRetL (r : Int32 → Prop) : zS → Prop := fun σ => match σ.2.1 with
  | [.int x] => r x
  | _ => False
section ZSX
variable {p : Program} {l : Launch} {e : Env} {R : Room} {s : State} {m : MethodId} {args : Array Value} {below : List Frame} {meth : Method} {c : Code} {cc : ByteArray} {nL : Nat} {own : String} {D : va_G} {cA : Nat → ClassId} {ad : Nat → Nat} {T : List zEn} {H0 : Heap} {ce sl : Nat} {Q : State → Prop}
variable {pc n i : Nat} {k : zS → Prop}
theorem sn_i2l (hc : zCx p s m args c cc nL own D cA ad T) (hd : decode cc pc = .ok (.i2l, 1)) (hk : zK p l e R s m args below meth c nL D cA ad T H0 ce sl Q (pc + 1) k) : zK p l e R s m args below meth c nL D cA ad T H0 ce sl Q pc (oI2l k) := by
  rintro ⟨ls, st, g⟩ h H locs la hP hS hl
  simp only [oI2l] at h
  split at h
  · exact lv_i2l hc.1 hc.2.1 hd rfl (hk _ h H locs la hP hS hl)
  · exact h.elim
theorem sn_lconst (hc : zCx p s m args c cc nL own D cA ad T) {f : Fin 2} {v : Int32} (hd : decode cc pc = .ok (.lconst f, 1)) (hv : Int64.ofNat (f : Nat) = v.toInt64) (hk : zK p l e R s m args below meth c nL D cA ad T H0 ce sl Q (pc + 1) k) : zK p l e R s m args below meth c nL D cA ad T H0 ce sl Q pc (oLc v k) :=
  fun _ h H locs la hP hS hl => lv_lconst hc.1 hc.2.1 hd hv (hk _ h H locs la hP hS hl)
theorem lcmp_0 (x y : Int64) : lg_cmp x y = 0 ↔ x = y := by
  unfold lg_cmp
  split
  · rename_i h
    refine ⟨fun e => absurd e (by decide), fun e => ?_⟩
    subst e
    exact absurd h (Int64.lt_irrefl)
  · split
    · rename_i h; exact ⟨fun _ => h, fun _ => rfl⟩
    · rename_i h; exact ⟨fun e => absurd e (by decide), fun e => absurd e h⟩
theorem sn_lcmp (hc : zCx p s m args c cc nL own D cA ad T) (hd : decode cc pc = .ok (.lcmp, 1)) (hk : zK p l e R s m args below meth c nL D cA ad T H0 ce sl Q (pc + 1) k) : zK p l e R s m args below meth c nL D cA ad T H0 ce sl Q pc (oLcmp k) := by
  rintro ⟨ls, st, g⟩ h H locs la hP hS hl
  simp only [oLcmp] at h
  split at h
  · rename_i y x st'
    exact W.lcmp hc.1 hc.2.1 hd (hk _ (h _ (lcmp_0 x y)) H locs la hP hS hl)
  · exact h.elim
theorem sn_lald (hc : zCx p s m args c cc nL own D cA ad T) (hT : ∀ (a : Nat) (b : Nat), zn T b a < 2 ^ 31) (hd : decode cc pc = .ok (.laload, 1)) (hk : zK p l e R s m args below meth c nL D cA ad T H0 ce sl Q (pc + 1) k) : zK p l e R s m args below meth c nL D cA ad T H0 ce sl Q pc (oLald T k) := by
  rintro ⟨ls, st, g⟩ h H locs la hP hS hl
  simp only [oLald] at h
  split at h
  · rename_i i a st'
    obtain ⟨n, rfl, hn, h⟩ := h
    refine va_lald hc.1 hc.2.1 hc.2.2.2.2.2.1 hP a 2 (zW_at (zn_of hn)) rfl (vp_in_nI hn (hT a 2)) hd ?_
    rw [nI_clamp (zn_lt31 hT hn)]
    exact hk _ h H locs la hP hS hl
  · exact h.elim
theorem sn_last (hc : zCx p s m args c cc nL own D cA ad T) (hT : ∀ (a : Nat) (b : Nat), zn T b a < 2 ^ 31) (hd : decode cc pc = .ok (.lastore, 1)) (hk : zK p l e R s m args below meth c nL D cA ad T H0 ce sl Q (pc + 1) k) : zK p l e R s m args below meth c nL D cA ad T H0 ce sl Q pc (oLast T k) := by
  rintro ⟨ls, st, g⟩ h H locs la hP hS hl
  simp only [oLast] at h
  split at h
  · rename_i x i a st'
    obtain ⟨n, w, rfl, hn, rfl, h⟩ := h
    refine va_last hc.1 hc.2.1 hc.2.2.2.2.2.1 hP (zD hc.2.2.2.2.2.2.2) hS a 2 (zW_at (zn_of hn)) rfl (vp_in_nI hn (hT a 2)) hd (fun H1 locs1 hP1 _ hS1 => ?_)
    rw [nI_clamp (zn_lt31 hT hn)] at hP1
    have h2 := zW_set (ad := ad) (cA := cA) (g := g) (g' := zU g a n w) (en := .inl (cA 2, zn T 2 a, .inr (.inl (vp_updL (fun j => (g a j).toInt64) n w.toInt64)))) T 0 a _ (zn_of hn) (fun y hy => zU_ne g a n w (by rwa [Nat.zero_add] at hy)) (by
      rw [Nat.zero_add]
      show _ = Sum.inl (cA 2, zn T 2 a, Sum.inr (Sum.inl fun j => (zU g a n w a j).toInt64))
      rw [zU_self]
      have : vp_updL (fun j => (g a j).toInt64) n w.toInt64 = fun j => (upd (g a) n w j).toInt64 := by
        funext j
        simp only [vp_updL, upd]
        split <;> rfl
      rw [this])
    rw [Nat.zero_add] at h2
    rw [h2] at hP1
    exact hk _ h H1 locs1 la hP1 hS1 hl
  · exact h.elim
theorem sn_sld (hc : zCx p s m args c cc nL own D cA ad T) {S : Nat → Int32} {L : Nat} (hV : va_X (ad 47) L S s H0) (hB : ad 47 < H0.size ∧ ¬ zA T ad (ad 47) ∧ L < 2 ^ 31) (hd : decode cc pc = .ok (.iaload, 1)) (hk : zK p l e R s m args below meth c nL D cA ad T H0 ce sl Q (pc + 1) k) : zK p l e R s m args below meth c nL D cA ad T H0 ce sl Q pc (oSld S L k) := by
  rintro ⟨ls, st, g⟩ h H locs la hP hS hl
  simp only [oSld] at h
  split at h
  · rename_i i a st'
    obtain ⟨rfl, n, rfl, hn, h⟩ := h
    refine va_sld hc.1 hc.2.1 hV hB.1 hB.2.1 hS (vp_in_nI hn hB.2.2) hd ?_
    rw [nI_clamp (Nat.lt_trans hn hB.2.2)]
    exact hk _ h H locs la hP hS hl
  · exact h.elim
theorem sn_slen (hc : zCx p s m args c cc nL own D cA ad T) {S : Nat → Int32} {L : Nat} (hV : va_X (ad 47) L S s H0) (hB : ad 47 < H0.size ∧ ¬ zA T ad (ad 47) ∧ L < 2 ^ 31) (hd : decode cc pc = .ok (.arraylength, 1)) (hk : zK p l e R s m args below meth c nL D cA ad T H0 ce sl Q (pc + 1) k) : zK p l e R s m args below meth c nL D cA ad T H0 ce sl Q pc (oSlen L k) := by
  rintro ⟨ls, st, g⟩ h H locs la hP hS hl
  simp only [oSlen] at h
  split at h
  · rename_i a st'
    obtain ⟨rfl, h⟩ := h
    exact va_slen hc.1 hc.2.1 hV hB.1 hB.2.1 hS hd (hk _ h H locs la hP hS hl)
  · exact h.elim
/-! returns at any count of new cells -/
theorem sn_retIg {post : Option Value → zM → Prop} (hc : zCx p s m args c cc nL own D cA ad T) (hr : meth.sig.returnType = some .int) (hlocks : meth.locks = false) (hd : decode cc pc = .ok (.ireturn, 1)) : zK p l e R s m args below meth c nL D cA ad T s.heap ce sl (MQ below (zQc post D ad cA T) args s ce sl (zA T ad)) pc (oRetI post) := by
  rintro ⟨ls, st, g⟩ h H locs la hP hS hl
  simp only [oRetI] at h
  split at h
  · rename_i x
    exact W.iret hc.1 hc.2.1 hr (fun t ht hW => ⟨some (.int x), g, rfl, h, by rw [ht]; exact hP, hS.F ht⟩) hS.2.2 hd hlocks
  · exact h.elim
theorem sn_retZg {post : Option Value → zM → Prop} (hc : zCx p s m args c cc nL own D cA ad T) (hr : meth.sig.returnType = some .boolean) (hlocks : meth.locks = false) (hd : decode cc pc = .ok (.ireturn, 1)) : zK p l e R s m args below meth c nL D cA ad T s.heap ce sl (MQ below (zQc post D ad cA T) args s ce sl (zA T ad)) pc (oRetZ post) := by
  rintro ⟨ls, st, g⟩ h H locs la hP hS hl
  simp only [oRetZ] at h
  split at h
  · rename_i x
    exact W.zret hc.1 hc.2.1 hr (by rcases h.1 with rfl | rfl <;> rfl) (fun t ht hW => ⟨some (.int x), g, rfl, h.2, by rw [ht]; exact hP, hS.F ht⟩) hS.2.2 hd hlocks
  · exact h.elim
theorem sn_retIX {post : Option Value → zM → Prop} {XC : String → State → State → Prop} (hc : zCx p s m args c cc nL own D cA ad T) (hr : meth.sig.returnType = some .int) (hlocks : meth.locks = false) (hd : decode cc pc = .ok (.ireturn, 1)) : zK p l e R s m args below meth c nL D cA ad T s.heap 0 0 (vx_MQ below (zQc post D ad cA T) XC args s 1 6 (zA T ad)) pc (oRetI post) :=
  fun σ h H locs la hP hS hl => W.widen (k := 1) (n := 6) (by omega) (by omega) (vx_ret (sn_retIg hc hr hlocks hd σ h H locs la hP hS hl))
theorem sn_retZX {post : Option Value → zM → Prop} {XC : String → State → State → Prop} (hc : zCx p s m args c cc nL own D cA ad T) (hr : meth.sig.returnType = some .boolean) (hlocks : meth.locks = false) (hd : decode cc pc = .ok (.ireturn, 1)) : zK p l e R s m args below meth c nL D cA ad T s.heap 0 0 (vx_MQ below (zQc post D ad cA T) XC args s 1 6 (zA T ad)) pc (oRetZ post) :=
  fun σ h H locs la hP hS hl => W.widen (k := 1) (n := 6) (by omega) (by omega) (vx_ret (sn_retZg hc hr hlocks hd σ h H locs la hP hS hl))
/-- throw new E("..") -/
theorem sn_thr {post : Option Value → zM → Prop} {px : String → zM → Prop} {d : Nat} (hc : zCx p s m args c cc nL rr_X D cA ad T) (hX : zTx (zA T ad) s s.heap) (hl9 : l.stackTraces = false) (hno : ∀ x ∈ c.exceptionTable.toList, False) (hlocks : meth.locks = false) {ik is ic : Nat} {E tx : String}
    (hf : Bundle.fit E = true ∧ ∀ n ∈ zEN, Bundle.fit n = true) (hk : Cond.classLink rr_X ik E ∈ zWS) (hini : Cond.initialized E ∈ zWS) (htx : (is, tx) ∈ zTxt) (hat : ∀ w ∈ vx_atS rr_X ic E zEN, w ∈ zWS ∨ (w.onTables = true ∧ w ∈ zXL)) (hot : ∀ w ∈ Cond.classLink rr_X ik E :: Cond.initialized E :: vx_atS rr_X ic E zEN, vx_ot w = true)
    (d0 : decode cc pc = .ok (.new ik, 3)) (d3 : decode cc (pc + 3) = .ok (.dup, 1)) (d4 : decode cc (pc + 4) = .ok (.ldc is, 2)) (d6 : decode cc (pc + 6) = .ok (.invokespecial ic, 3)) (d9 : decode cc (pc + 9) = .ok (.athrow, 1)) :
    zK p l e (zRx (d + 1)) s m args below meth c nL D cA ad T s.heap 0 0 (vx_MQ below (zQc post D ad cA T) (zXc px D ad cA T) args s 1 6 (zA T ad)) pc (oThr E px) := by
  rintro ⟨ls, st, g⟩ ⟨h0, h⟩ H locs la hP hS hl
  dsimp only at h0 h hP hl
  subst h0
  obtain ⟨hx, hb, hml, hown, hts, hK, hN, hA⟩ := hc
  obtain ⟨x1, x2, x3, x4, x5⟩ := hX
  obtain ⟨sa, hsa⟩ := x3 _ htx
  exact vx_throwS (own := rr_X) (cls := E) (text := tx) (names := zEN) (sa := sa) (A := zA T ad) (rest := []) hx hb hl9 hown hf.1 hf.2 (hts _ hk) (hts _ hini) hsa
    (fun w hw => by
      rcases hat w hw with h1 | ⟨h1, h2⟩
      · exact hts _ h1
      · exact va_Nw.use h1 (x4 w h2)) hot x1 x2 hS (hl.2.1.1.trans hml.symm) d0 d3 d4 d6 d9 (fun x hx9 => (hno x hx9).elim) (by show 2 + 3 < d + 1 + 6; omega) (by show 0 + (13 * (2 + 1) + 43) ≤ 64 * (d + 1) + 128; omega) (Nat.le_refl 1) (Nat.le_refl 6) hlocks
    (fun t _ hz hq => ⟨g, h, hP.kept (fun k q hk9 => hq _ ((hP k q hk9).lt)), ⟨Nat.le_trans hS.1 hz, fun q h1 h2 => by rw [hq q (Nat.lt_of_lt_of_le h1 hS.1)]; exact hS.2.1 q h1 h2⟩⟩) hS.2.2 (by omega) (by omega)
/-! calls of methods that may throw -/
theorem z_callX {H : Heap} {locs : List Loc} {la : Array Slot} {st0 rest : List Value} {a : Array Value} {post : Option Value → zM → Prop} {px : String → zM → Prop}
    (hr : vx_Run p l e R s m args below meth c H locs ce sl 1 6 (F0 m pc la st0) rest (zQc post D ad cA T a) (zXc px D ad cA T) (zA T ad)) (hS : va_S (zA T ad) H0 H locs)
    (kk : ∀ (r : Option Value) (g : zM) (H1 : Heap) (locs1 : List Loc), post r g → va_P D zCl (zW ad cA g 0 T) H1 → va_S (zA T ad) H0 H1 locs1 → W p l e R s m args below meth c H1 locs1 (ce + 1) (sl + 6) Q (F0 m (pc + 3) la ((r.map (zv ad)).toList ++ rest)))
    (kx : ∀ (E : String) (g : zM) (q : Addr) (cl : Cell) (H1 : Heap) (locs1 : List Loc), px E g → va_P D zCl (zW ad cA g 0 T) H1 → va_S (zA T ad) H0 H1 locs1 → H1[q]? = some cl → cl.vm = .none → s.vm.findClass E = some cl.cls → vx_W p l e R s m args below meth c H1 locs1 (ce + 1) (sl + 6) Q (F0 m pc la rest) q) :
    W p l e R s m args below meth c H locs ce sl Q (F0 m pc la st0) := by
  have keep : ∀ (st₀ t T' : State) (L : List Loc), st₀.heap = H → T'.heap = t.heap → (∀ q ∈ L, zA T ad q.base) → va_F (zA T ad) st₀ t → va_S (zA T ad) H0 T'.heap (locs ++ L) := by
    intro st₀ t T' L h0 e1 hL hF
    obtain ⟨hz, hk⟩ := hF
    rw [h0] at hz hk
    exact ⟨Nat.le_trans hS.1 (by rw [e1]; exact hz), fun q h1 h2 => by rw [e1, hk q (Nat.lt_of_lt_of_le h1 hS.1) h2]; exact hS.2.1 q h1 h2, fun q hq => by
      rcases List.mem_append.mp hq with h | h
      · exact hS.2.2 q h
      · exact hL q h⟩
  intro T0 hT X
  rcases hr T0 hT X with ⟨v, st₀, t, T', L, h0, X', hL, e1, e2, ⟨r, g, hv, hp, hPt, hF⟩, st⟩ | ⟨q, st₀, t, T', L, E, cl, h0, X', hL, e1, e2, ⟨g, hp, hPt, hF⟩, hce, hcv, hcl, st⟩
  · have hv2 : v = r.map (zv ad) := by injection hv
    subst hv2
    obtain ⟨t2, a1, b1⟩ := kk r g T'.heap (locs ++ L) hp (by rw [e1]; exact hPt) (keep st₀ t T' L h0 e1 hL hF) T' rfl X'
    exact ⟨t2, st t2 a1, b1⟩
  · obtain ⟨t2, a1, b1⟩ := kx E g q cl T'.heap (locs ++ L) hp (by rw [e1]; exact hPt) (keep st₀ t T' L h0 e1 hL hF) (by rw [e1]; exact hce) hcv hcl T' rfl X'
    exact ⟨t2, st.trans a1, b1⟩
theorem sn_callX (hc : zCx p s m args c cc nL own D cA ad T) (hX : zTx (zA T ad) s H0) {ix d maxL ci : Nat} {y : MethodName} {bytes : ByteArray} {ret : Option FieldType} {F : u_T} {N : Nat} {kx : String → zS → Prop} (hR : d + 7 ≤ R.frames ∧ 64 * d + 192 ≤ R.locals ∧ ce + 1 ≤ R.cells ∧ sl + 6 ≤ R.slots) (hd : decode cc pc = .ok (.invokevirtual ix, 3)) (hlk : Cond.methodLink own ix y ∈ zWS) (hin : Cond.instanceMethod y ∈ zWS) (hsel : Cond.selects y.cls y y ∈ zWS) (hci : zCl[ci]? = some (y.cls, F, N)) (hcw : zCw y bytes maxL ret n)
    (hk : zK p l e R s m args below meth c nL D cA ad T H0 (ce + 1) (sl + 6) Q (pc + 3) k)
    (hkx : ∀ (E : String) (ls : List (Option Value)) (st : List Value) (g : zM), kx E (ls, st, g) → ∀ (q : Addr) (cl : Cell) (H : Heap) (locs : List Loc) (la : Array Slot), va_P D zCl (zW ad cA g 0 T) H → va_S (zA T ad) H0 H locs → zL ad la nL ls → H[q]? = some cl → cl.vm = .none → s.vm.findClass E = some cl.cls → vx_W p l e R s m args below meth c H locs (ce + 1) (sl + 6) Q (F0 m pc la (st.map (zv ad))) q) :
    zK p l e R s m args below meth c nL D cA ad T H0 ce sl Q pc (oRecv T ci (n + 1) (oCallX (SemX l T (Cond.code y bytes maxL ret :: zWS) d y) (n + 1) k kx)) := by
  rintro ⟨ls, st, g⟩ h H locs la hP hS hl
  simp only [oRecv, Nat.add_sub_cancel] at h
  split at h
  · rename_i a0 ha0
    obtain ⟨hz, hn, hcat, hM⟩ := h
    dsimp only at ha0 hn hcat hM
    obtain ⟨q1, q2, q3, q4, q5, q6⟩ := hcw
    obtain ⟨hx, hb, hml, hown, hts, hK, hN, hA⟩ := hc
    have hroom : (zRx d).frames + 1 ≤ (R).frames ∧ 8 + (maxL + 11) + (zRx d).locals ≤ (R).locals := by
      have h1 := hR.1; have h2 := hR.2.1; simp only [zRx]; omega
    have htk : (st.take (n + 1)).reverse = .ref a0 :: (st.take n).reverse := by
      rw [List.take_succ, ha0]; simp
    have hst : st.map (zv ad) = (((st.take n).reverse).map (zv ad)).reverse ++ .ref (ad a0) :: (st.drop (n + 1)).map (zv ad) := by
      rw [← z_split (n := n + 1) st, htk]
      simp [zv]
    rw [htk] at hM
    have hpre : PreV s H y.cls (ad a0) (zPx (.ref a0 :: (st.take n).reverse) g D ad cA T) (((st.take n).reverse).map (zv ad)) :=
      ⟨zPx_blind, va_recv hK hP hci (zW_at hz), fun U hU hW => ⟨rfl, ⟨by rw [hU]; exact hP, va_K.moved hW.alike hK, zNw.warm hW hN, hA⟩, by rw [hU]; exact zTx.to hW hS.2.1 hX⟩⟩
    have hlen : (((st.take n).reverse).map (zv ad)).length = n := by simp; omega
    have hcat2 : (((st.drop (n + 1)).map (zv ad)).map fun v => v.category).sum ≤ 8 := by rw [z_cats]; exact hcat
    refine z_callX (vx_runV (C := y.cls) ⟨hx, hb, hml, hown, hts⟩ (hM D ad cA) ⟨callB_of n hts (zGood q1) rfl rfl rfl (hts _ q2) (hts _ hlk) ⟨q3, q4, q5⟩ hroom, hts _ hin, hts _ hsel⟩ hpre rfl hlen (hl.2.1.1) hst (lv_room hcat2) hd ⟨hR.2.2.1, hR.2.2.2⟩) hS (fun r g' H1 locs1 hp hP1 hS1 => ?_) (fun E g' q cl H1 locs1 hp hP1 hS1 h1 h2 h3 => hkx E _ _ g' hp q cl H1 locs1 la hP1 hS1 hl h1 h2 h3)
    have h9 := hk _ hp H1 locs1 la hP1 hS1 hl
    rw [List.map_append] at h9
    cases r with
    | none => exact h9
    | some v => exact h9
  · exact h.elim
/-- a static call of a method with a table of its own -/
theorem sn_callH (hc : zCx p s m args c cc nL own D cA ad T) (hX : zTx (zA T ad) s H0) {ix d maxL : Nat} {y : MethodName} {bytes : ByteArray} {ret : Option FieldType} {hh : List (Nat × Nat × Nat × Nat)} (hR : d + 7 ≤ R.frames ∧ 64 * d + 192 ≤ R.locals ∧ ce + 1 ≤ R.cells ∧ sl + 6 ≤ R.slots) (hd : decode cc pc = .ok (.invokestatic ix, 3)) (hlk : Cond.methodLink own ix y ∈ zWS) (hst : Cond.static y ∈ zWS)
    (hcw : Cond.codeWith y bytes maxL ret hh ∈ zWS ∧ Cond.initialized y.cls ∈ zWS ∧ y.cls ≠ "java/lang/invoke/MethodHandle" ∧ y.cls ≠ "java/lang/invoke/VarHandle" ∧ (parseMethodDescriptor y.desc).map (fun d => d.parameters.length) = some n ∧ maxL ≤ 45)
    (hk : zK p l e R s m args below meth c nL D cA ad T H0 (ce + 1) (sl + 6) Q (pc + 3) k) : zK p l e R s m args below meth c nL D cA ad T H0 ce sl Q pc (oCall (SemH l T (Cond.codeWith y bytes maxL ret hh :: zWS) d y) n k) := by
  rintro ⟨ls, st, g⟩ ⟨hn, hcat, hM⟩ H locs la hP hS hl
  dsimp only at hn hcat hM hP hl
  obtain ⟨q1, q2, q3, q4, q5, q6⟩ := hcw
  obtain ⟨hx, hb, hml, hown, hts, hK, hN, hA⟩ := hc
  have hroom : (zRx d).frames + 1 ≤ (R).frames ∧ 8 + (maxL + 11) + (zRx d).locals ≤ (R).locals := by
    have h1 := hR.1; have h2 := hR.2.1; simp only [zRx]; omega
  have hpre : PreS s H (zPx (st.take n).reverse g D ad cA T) (((st.take n).reverse).map (zv ad)) :=
    ⟨zPx_blind, fun U hU hW => ⟨rfl, ⟨by rw [hU]; exact hP, va_K.moved hW.alike hK, zNw.warm hW hN, hA⟩, by rw [hU]; exact zTx.to hW hS.2.1 hX⟩⟩
  have hlen : (((st.take n).reverse).map (zv ad)).length = n := by simp; omega
  have hcat2 : (((st.drop n).map (zv ad)).map fun v => v.category).sum ≤ 8 := by rw [z_cats]; exact hcat
  have hG : GoodIn zWS (Cond.codeWith y bytes maxL ret hh :: zWS) := by
    intro w hw
    rcases List.mem_cons.mp hw with rfl | hw
    · exact ⟨q1, zWS_good _ q1⟩
    · exact ⟨hw, zWS_good w hw⟩
  have hcs : vx_CSW R s args own ix y bytes maxL ret hh (Cond.codeWith y bytes maxL ret hh :: zWS) (zRx d) 1 6 n :=
    ⟨⟨rfl, rfl, hroom.1, hroom.2, pay_in hts hG, List.mem_cons_self⟩, hts _ q1, hts _ q2, ⟨q3, q4⟩, fun sig h => by
      rw [h] at q5
      exact (Option.some.inj q5).symm, hts _ hlk, hts _ hst⟩
  have hrun := vx_runSW (l := l) (H := H) (locs := locs) (cells := ce) (slots := sl) (meth := meth) (below := below) (e := e) ⟨hx, hb, hml, hown, hts⟩ (hM D ad cA) hcs hpre rfl hlen (hl.2.1.1) (z_split st).symm (lv_room hcat2) hd ⟨hR.2.2.1, hR.2.2.2⟩
  intro T0 hT X
  obtain ⟨v, st₀, t, T', L, h0, X', hL, e1, e2, ⟨r, g', hv, hp, hPt, hz, hk9⟩, st9⟩ := hrun T0 hT X
  have hv2 : v = r.map (zv ad) := by injection hv
  subst hv2
  rw [h0] at hz hk9
  have h9 := hk _ hp T'.heap (locs ++ L) la (by rw [e1]; exact hPt) ⟨Nat.le_trans hS.1 (by rw [e1]; exact hz), fun q h1 h2 => by rw [e1, hk9 q (Nat.lt_of_lt_of_le h1 hS.1) h2]; exact hS.2.1 q h1 h2, fun q hq => by
      rcases List.mem_append.mp hq with h | h
      · exact hS.2.2 q h
      · exact hL q h⟩ hl
  rw [List.map_append] at h9
  have h10 : W p l e R s m args below meth c T'.heap (locs ++ L) (ce + 1) (sl + 6) Q (F0 m (pc + 3) la ((r.map (zv ad)).toList ++ (st.drop n).map (zv ad))) := by
    cases r with
    | none => exact h9
    | some v => exact h9
  obtain ⟨t2, a1, b1⟩ := h10 T' rfl X'
  exact ⟨t2, st9 t2 a1, b1⟩
end ZSX
theorem zentry {ad : Nat → Nat} {g : zM} {maxL : Nat} (as : List Value) (hlen : as.length ≤ maxL) (hcat : ∀ v ∈ as, v.category = 1) : ∃ la : Array Slot, (lg_sl (as.map (zv ad)) ++ List.replicate (maxL - (lg_sl (as.map (zv ad))).length) Slot.unset).toArray = la ∧ zL ad la maxL (zent maxL as g).1 := by
  have hcat' : ∀ v ∈ as.map (zv ad), v.category = 1 := by
    intro v hv
    obtain ⟨w, hw, rfl⟩ := List.mem_map.mp hv
    rw [zv_cat]; exact hcat w hw
  have hl := lv_entry (as.map (zv ad)) (n := maxL) (by rw [lg_sl_cat hcat']; simpa using hlen)
  refine ⟨_, rfl, ?_⟩
  have key : ∀ (i : Nat) (v : Value), (as.map some ++ List.replicate (maxL - as.length) (none : Option Value))[i]? = some (some v) → as[i]? = some v := by
    intro i v h
    by_cases hi : i < as.length
    · rw [List.getElem?_append_left (by simpa using hi), List.getElem?_map] at h
      cases h2 : as[i]? with
      | none => rw [h2] at h; cases h
      | some w => rw [h2] at h; cases h; rfl
    · rw [List.getElem?_append_right (by simpa using hi)] at h
      have := List.mem_of_getElem? h
      simp at this
  refine ⟨?_, ⟨hl.1, hl.2.1, ?_⟩, ?_⟩
  · simp [zent]; omega
  · rintro ⟨i, w⟩ hq
    obtain ⟨v, hv, rfl⟩ := zlv_mem.mp hq
    apply hl.2.2
    have h1 := key i v hv
    have h2 := lv_args_mem (as.map (zv ad)) 0 i (zv ad v) hcat' (by rw [List.getElem?_map, h1]; rfl)
    rwa [Nat.zero_add] at h2
  · intro i v hv
    exact hcat v (List.mem_of_getElem? (key i v hv))
/-- entry of a method that may throw -/
theorem SemX.of {l : Launch} {T : List zEn} {d maxL : Nat} {y : MethodName} {bytes : ByteArray} {ret : Option FieldType} {as : List Value} {g : zM} {post : Option Value → zM → Prop} {px : String → zM → Prop} (hy : plainName y.cls = true) (hlen : as.length ≤ maxL) (hcat : ∀ v ∈ as, v.category = 1)
    (body : ∀ (p : Program) (e : Env) (s : State) (m : MethodId) (args : Array Value) (below : List Frame) (meth : Method) (c : Code) (D : va_G) (cA : Nat → ClassId) (ad : Nat → Nat), zCx p s m args c bytes maxL y.cls D cA ad T → zTx (zA T ad) s s.heap → meth.sig.returnType = ret → meth.locks = false → (∀ x ∈ c.exceptionTable.toList, False) →
      zG p l e (zRx d) s m args below meth c maxL D cA ad T s.heap 0 0 (vx_MQ below (zQc post D ad cA T) (zXc px D ad cA T) args s 1 6 (zA T ad)) 0 (zent maxL as g)) :
    SemX l T (Cond.code y bytes maxL ret :: zWS) d y as g post px := by
  intro D ad cA
  refine vx_ofW (cc := bytes) (maxL := maxL) (ret := ret) hy rfl ?_
  intro p e s m args below meth c s₁ B hml hno hv
  obtain ⟨rfl, ⟨hP, hK, hN, hA⟩, hX⟩ := hv
  have hts := atoms_spec (ws := Cond.code y bytes maxL ret :: zWS) B.pre
  obtain ⟨la, h1, h2⟩ := zentry (ad := ad) (g := g) as hlen hcat
  rw [lg_entry_eq, h1]
  exact body p e s m _ below meth c D cA ad ⟨B.exec, B.bytes, hml, findClass_of_methodNamed B.named, fun w hw => hts w (List.mem_cons_of_mem _ hw), hK, hN, hA⟩ hX B.returns B.notSynchronized hno s.heap [] la hP va_S.rf h2
/-- entry of a method with a table of its own -/
theorem SemH.of {l : Launch} {T : List zEn} {d maxL : Nat} {y : MethodName} {bytes : ByteArray} {ret : Option FieldType} {hh : List (Nat × Nat × Nat × Nat)} {as : List Value} {g : zM} {post : Option Value → zM → Prop} (hy : plainName y.cls = true) (hlen : as.length ≤ maxL) (hcat : ∀ v ∈ as, v.category = 1)
    (body : ∀ (p : Program) (e : Env) (s : State) (m : MethodId) (args : Array Value) (below : List Frame) (meth : Method) (c : Code) (D : va_G) (cA : Nat → ClassId) (ad : Nat → Nat), zCx p s m args c bytes maxL y.cls D cA ad T → zTx (zA T ad) s s.heap → meth.sig.returnType = ret → meth.locks = false → c.exceptionTable.toList = tableOf hh →
      zG p l e (zRx d) s m args below meth c maxL D cA ad T s.heap 0 0 (MQ below (zQc post D ad cA T) args s 1 6 (zA T ad)) 0 (zent maxL as g)) :
    SemH l T (Cond.codeWith y bytes maxL ret hh :: zWS) d y as g post := by
  intro D ad cA
  refine va_MetW (cc := bytes) (maxL := maxL) (ret := ret) hy rfl ?_
  intro p e s m args below meth c s₁ B hml hv
  obtain ⟨rfl, ⟨hP, hK, hN, hA⟩, hX⟩ := hv
  have hts := atoms_spec (ws := Cond.codeWith y bytes maxL ret hh :: zWS) B.pre
  have hTab := vx_table (x := y) B (hts _ List.mem_cons_self)
  obtain ⟨la, h1, h2⟩ := zentry (ad := ad) (g := g) as hlen hcat
  rw [lg_entry_eq, h1]
  exact body p e s m _ below meth c D cA ad ⟨B.exec, B.bytes, hml, findClass_of_methodNamed B.named, fun w hw => hts w (List.mem_cons_of_mem _ hw), hK, hN, hA⟩ hX B.returns B.notSynchronized hTab s.heap [] la hP va_S.rf h2
section ZHA
variable {p : Program} {l : Launch} {e : Env} {R : Room} {s : State} {m : MethodId} {args : Array Value} {below : List Frame} {meth : Method} {c : Code} {cc : ByteArray} {nL : Nat} {own : String} {D : va_G} {cA : Nat → ClassId} {ad : Nat → Nat} {T : List zEn} {H0 : Heap}
/-- a handler that stores what it caught and returns a constant -/
theorem z_ret {post : Option Value → zM → Prop} (hc : zCx p s m args c cc nL own D cA ad T) (hr : meth.sig.returnType = some .int) (hlocks : meth.locks = false) {hp ln : Nat} {z : Int} {v : Int32} {q : Addr} {g : zM} {H : Heap} {locs : List Loc} {la : Array Slot} {ls : List (Option Value)} (hP : va_P D zCl (zW ad cA g 0 T) H) (hS : va_S (zA T ad) s.heap H locs) (hl : zL ad la nL ls) (hpo : post (some (.int v)) g)
    (d1 : (∃ i, decode cc hp = .ok (.astore i, ln) ∧ ln = 2 ∧ i < nL) ∨ ∃ k : Fin 4, decode cc hp = .ok (.astore_n k, ln) ∧ ln = 1 ∧ (k : Nat) < nL) (d2 : decode cc (hp + ln) = .ok (.iconst z, 1)) (hv : Int32.ofInt z = v) (d3 : decode cc (hp + ln + 1) = .ok (.ireturn, 1)) :
    W p l e R s m args below meth c H locs 1 6 (MQ below (zQc post D ad cA T) args s 1 6 (zA T ad)) (F0 m hp la [.ref q]) := by
  have fin : ∀ la', W p l e R s m args below meth c H locs 1 6 (MQ below (zQc post D ad cA T) args s 1 6 (zA T ad)) (F0 m (hp + ln) la' []) := by
    intro la'
    refine lv_iconst hc.1 hc.2.1 d2 hv ?_
    exact W.iret hc.1 hc.2.1 hr (fun t ht hW => ⟨some (.int v), g, rfl, hpo, by rw [ht]; exact hP, hS.F ht⟩) hS.2.2 d3 hlocks
  rcases d1 with ⟨i, d1, rfl, hi⟩ | ⟨k, d1, rfl, hi⟩
  · exact lv_astore hc.1 hc.2.1 d1 hl.2.1 hi rfl (fun la' _ => fin la')
  · exact lv_astore_n hc.1 hc.2.1 d1 rfl hl.2.1 hi rfl (fun la' _ => fin la')
end ZHA
/-! a weaker end -/
theorem met_imp {l : Launch} {y : MethodName} {ws : List Cond} {rm : Room} {Pc : Array Value → State → Prop} {Qc Qc' : Array Value → State → Outcome → State → Prop} {mc ms : Nat} {free : Addr → Prop} (h : Met l y ws rm Pc Qc mc ms free) (hq : ∀ a s o t, Qc a s o t → Qc' a s o t) : Met l y ws rm Pc Qc' mc ms free := by
  intro p e h1 h2 h3 s m args below h4 h5 h6 h7
  obtain ⟨n, o, a1, a2, a3, a4, a5⟩ := h p e h1 h2 h3 s m args below h4 h5 h6 h7
  exact ⟨n, o, a1, a2, a3, hq _ _ _ _ a4, a5⟩
theorem zQc_imp {post post' : Option Value → zM → Prop} {D : va_G} {ad : Nat → Nat} {cA : Nat → ClassId} {T : List zEn} (hm : ∀ r g, post r g → post' r g) : ∀ a s o t, zQc post D ad cA T a s o t → zQc post' D ad cA T a s o t := by
  rintro a s o t ⟨r, g, e, hp, h⟩
  exact ⟨r, g, e, hm r g hp, h⟩
theorem Sem.imp {l : Launch} {T : List zEn} {ws : List Cond} {d : Nat} {y : MethodName} {as : List Value} {g : zM} {post post' : Option Value → zM → Prop} (h : Sem l T ws d y as g post) (hm : ∀ r g, post r g → post' r g) : Sem l T ws d y as g post' :=
  fun D ad cA => met_imp (h D ad cA) (zQc_imp hm)
theorem SemH.imp {l : Launch} {T : List zEn} {ws : List Cond} {d : Nat} {y : MethodName} {as : List Value} {g : zM} {post post' : Option Value → zM → Prop} (h : SemH l T ws d y as g post) (hm : ∀ r g, post r g → post' r g) : SemH l T ws d y as g post' :=
  fun D ad cA => met_imp (h D ad cA) (zQc_imp hm)
