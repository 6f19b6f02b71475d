/-! a method as a predicate transformer over the abstract memory; calls; returns; entry -/
def zRm (d : Nat) : Room := { frames := d, cells := 0, slots := 0, locals := 64 * d }
def zB (g : zM) (D : va_G) (ad : Nat → Nat) (cA : Nat → ClassId) (T : List zEn) (U : State) : Prop := va_P D zCl (zW ad cA g 0 T) U.heap ∧ va_K D zCl [(cA 0, .int), (cA 1, .boolean), (cA 2, .long)] U ∧ zNw U ∧ zAp T ad
def zPc (as : List Value) (g : zM) (D : va_G) (ad : Nat → Nat) (cA : Nat → ClassId) (T : List zEn) : Array Value → State → Prop := va_Pc (as.map (zv ad)) (zB g D ad cA T)
def zQc (post : Option Value → zM → Prop) (D : va_G) (ad : Nat → Nat) (cA : Nat → ClassId) (T : List zEn) : Array Value → State → Outcome → State → Prop := fun _ st oc t =>
  ∃ (r : Option Value) (g : zM), oc = .returned (r.map (zv ad)) ∧ post r g ∧ va_P D zCl (zW ad cA g 0 T) t.heap ∧ va_F (zA T ad) st t
def Sem (l : Launch) (T : List zEn) (ws : List Cond) (d : Nat) (y : MethodName) (as : List Value) (g : zM) (post : Option Value → zM → Prop) : Prop :=
  ∀ (D : va_G) (ad : Nat → Nat) (cA : Nat → ClassId), Met l y ws (zRm d) (zPc as g D ad cA T) (zQc post D ad cA T) 0 0 (zA T ad)
theorem zPc_blind {as : List Value} {g : zM} {D : va_G} {ad : Nat → Nat} {cA : Nat → ClassId} {T : List zEn} : FrameBlind (zPc as g D ad cA T) := by
  intro a U f mk q
  obtain ⟨q0, qP, qK, qN, qA⟩ := q
  exact ⟨q0, qP, va_K.moved (u := U) (U := U.calling f mk a) (Vm.Alike.refl U.vm) qK, zNw.same rfl qN, qA⟩
section ZCALL
variable {p : Program} {l : Launch} {e : Env} {R : Room} {s : State} {m : MethodId} {args : Array Value} {below : List Frame} {meth : Method} {c : Code} {cc : ByteArray} {nL : Nat} {own : String} {D : va_G} {cA : Nat → ClassId} {ad : Nat → Nat} {T : List zEn} {H0 : Heap} {ce sl : Nat} {Q : State → Prop}
variable {pc n i : Nat} {k : zS → Prop}
theorem z_call {H : Heap} {locs : List Loc} {la : Array Slot} {st0 rest : List Value} {a : Array Value} {post : Option Value → zM → Prop}
    (hr : va_Run p l e R s m args below meth c H locs ce sl 0 0 (F0 m pc la st0) rest (zQc post D ad cA T a) (zA T ad)) (hS : va_S (zA T ad) H0 H locs)
    (kk : ∀ (r : Option Value) (g : zM) (H1 : Heap) (locs1 : List Loc), post r g → va_P D zCl (zW ad cA g 0 T) H1 → va_S (zA T ad) H0 H1 locs1 → W p l e R s m args below meth c H1 locs1 ce sl Q (F0 m (pc + 3) la ((r.map (zv ad)).toList ++ rest))) :
    W p l e R s m args below meth c H locs ce sl Q (F0 m pc la st0) := by
  intro T0 hT X
  obtain ⟨v, st₀, t, T', L, h0, X', hL, e1, e2, ⟨r, g, hv, hp, hPt, hz, hk⟩, st⟩ := hr T0 hT X
  have hv2 : v = r.map (zv ad) := by injection hv
  subst hv2
  rw [h0] at hz hk
  obtain ⟨t2, a1, b1⟩ := kk r g T'.heap (locs ++ L) hp (by rw [e1]; exact hPt)
    ⟨Nat.le_trans hS.1 (by rw [e1]; exact hz), fun q h1 h2 => by rw [e1, hk q (Nat.lt_of_lt_of_le h1 hS.1) h2]; exact hS.2.1 q h1 h2, fun q hq => by
      rcases List.mem_append.mp hq with h | h
      · exact hS.2.2 q h
      · exact hL q h⟩ T' rfl X'
  exact ⟨t2, st t2 a1, b1⟩
/-- what a call site rests on: 0 a plain link, 1 a nest mate's -/
def zLk (own : String) (ix : Nat) (y : MethodName) (host : String) : Bool → Prop
  | false => Cond.methodLink own ix y ∈ zWS
  | true => (own, ix, y, host) ∈ zNM
def zCw (y : MethodName) (bytes : ByteArray) (maxL : Nat) (ret : Option FieldType) (n : Nat) : Prop :=
  Cond.code y bytes maxL ret ∈ zWS ∧ Cond.initialized y.cls ∈ zWS ∧ y.cls ≠ "java/lang/invoke/MethodHandle" ∧ y.cls ≠ "java/lang/invoke/VarHandle" ∧ (parseMethodDescriptor y.desc).map (fun d => d.parameters.length) = some n ∧ maxL ≤ 45
theorem zGood {y : MethodName} {bytes : ByteArray} {maxL : Nat} {ret : Option FieldType} (h : Cond.code y bytes maxL ret ∈ zWS) : GoodIn zWS (Cond.code y bytes maxL ret :: zWS) := by
  intro w hw
  rcases List.mem_cons.mp hw with rfl | hw
  · exact ⟨h, Or.inl rfl⟩
  · exact ⟨hw, zWS_good w hw⟩
theorem z_split (st : List Value) : (((st.take n).reverse).map (zv ad)).reverse ++ (st.drop n).map (zv ad) = st.map (zv ad) := by
  rw [List.map_reverse, List.reverse_reverse, ← List.map_append, List.take_append_drop]
theorem z_cats (st : List Value) : ((st.map (zv ad)).map fun v => v.category) = st.map fun v => v.category := by
  rw [List.map_map]
  exact List.map_congr_left fun v _ => zv_cat ad v
theorem sn_callS (hc : zCx p s m args c cc nL own D cA ad T) {ix d maxL : Nat} {y : MethodName} {bytes : ByteArray} {ret : Option FieldType} {host : String} {b : Bool} (hR : d + 1 ≤ R.frames ∧ 64 * d + 64 ≤ R.locals ∧ ce ≤ R.cells ∧ sl ≤ R.slots) (hd : decode cc pc = .ok (.invokestatic ix, 3)) (hlk : zLk own ix y host b) (hst : Cond.static y ∈ zWS) (hcw : zCw y bytes maxL ret n)
    (hk : zK p l e R s m args below meth c nL D cA ad T H0 ce sl Q (pc + 3) k) : zK p l e R s m args below meth c nL D cA ad T H0 ce sl Q pc (oCall (Sem l T (Cond.code y bytes maxL ret :: zWS) d y) n k) := by
  rintro ⟨ls, st, g⟩ ⟨hn, hcat, hM⟩ H locs la hP hS hl
  dsimp only at hn hcat hM hP hl
  obtain ⟨q1, q2, q3, q4, q5, q6⟩ := hcw
  obtain ⟨hx, hb, hml, hown, hts, hK, hN, hA⟩ := hc
  have hroom : (zRm d).frames + 1 ≤ (R).frames ∧ 8 + (maxL + 11) + (zRm d).locals ≤ (R).locals := by
    have h1 := hR.1; have h2 := hR.2.1; simp only [zRm]; omega
  have hpre : PreS s H (zPc (st.take n).reverse g D ad cA T) (((st.take n).reverse).map (zv ad)) :=
    ⟨zPc_blind, fun U hU hW => ⟨rfl, by rw [hU]; exact hP, va_K.moved hW.alike hK, zNw.warm hW hN, hA⟩⟩
  have hlen : (((st.take n).reverse).map (zv ad)).length = n := by simp; omega
  have hcat2 : (((st.drop n).map (zv ad)).map fun v => v.category).sum ≤ 8 := by rw [z_cats]; exact hcat
  have fin : va_Run p l e (R) s m args below meth c H locs ce sl 0 0 (F0 m pc la (st.map (zv ad))) ((st.drop n).map (zv ad)) (zQc (fun r g => k (ls, r.toList ++ st.drop n, g)) D ad cA T (((st.take n).reverse).map (zv ad)).toArray) (zA T ad) → W p l e (R) s m args below meth c H locs ce sl Q (F0 m pc la (st.map (zv ad))) := by
    intro hr
    refine z_call hr hS (fun r g' H1 locs1 hp hP1 hS1 => ?_)
    have h9 := hk _ hp H1 locs1 la hP1 hS1 hl
    rw [List.map_append] at h9
    cases r with
    | none => exact h9
    | some v => exact h9
  cases b with
  | false =>
    exact fin (va_runS ⟨hx, hb, hml, hown, hts⟩ (hM D ad cA) ⟨callB_of n hts (zGood q1) rfl rfl rfl (hts _ q2) (hts _ hlk) ⟨q3, q4, q5⟩ hroom, hts _ hst⟩ hpre rfl hlen (hl.2.1.1) (z_split st).symm (lv_room hcat2) hd ⟨hR.2.2.1, hR.2.2.2⟩)
  | true =>
    exact fin (va_runSN ⟨hx, hb, hml, hown, hts⟩ (hM D ad cA) ⟨va_cnB n hts (zGood q1) rfl rfl rfl (hN _ hlk) (hts _ q2) ⟨q3, q4, q5⟩ hroom, hts _ hst, trivial⟩ hpre rfl hlen (hl.2.1.1) (z_split st).symm (lv_room hcat2) hd ⟨hR.2.2.1, hR.2.2.2⟩)
theorem sn_callV (hc : zCx p s m args c cc nL own D cA ad T) {ix d maxL ci : Nat} {y : MethodName} {bytes : ByteArray} {ret : Option FieldType} {host : String} {b : Bool} {F : u_T} {N : Nat} (hR : d + 1 ≤ R.frames ∧ 64 * d + 64 ≤ R.locals ∧ ce ≤ R.cells ∧ sl ≤ R.slots) (hd : decode cc pc = .ok (.invokevirtual ix, 3)) (hlk : zLk own ix y host b) (hin : Cond.instanceMethod y ∈ zWS) (hsel : Cond.selects y.cls y y ∈ zWS) (hci : zCl[ci]? = some (y.cls, F, N)) (hcw : zCw y bytes maxL ret n)
    (hk : zK p l e R s m args below meth c nL D cA ad T H0 ce sl Q (pc + 3) k) : zK p l e R s m args below meth c nL D cA ad T H0 ce sl Q pc (oRecv T ci (n + 1) (oCall (Sem l T (Cond.code y bytes maxL ret :: zWS) d y) (n + 1) k)) := by
  rintro ⟨ls, st, g⟩ h H locs la hP hS hl
  simp only [oRecv, Nat.add_sub_cancel] at h
  split at h
  · rename_i a0 ha0
    obtain ⟨hz, hn, hcat, hM⟩ := h
    dsimp only at ha0 hn hcat hM
    obtain ⟨q1, q2, q3, q4, q5, q6⟩ := hcw
    obtain ⟨hx, hb, hml, hown, hts, hK, hN, hA⟩ := hc
    have hroom : (zRm d).frames + 1 ≤ (R).frames ∧ 8 + (maxL + 11) + (zRm d).locals ≤ (R).locals := by
      have h1 := hR.1; have h2 := hR.2.1; simp only [zRm]; omega
    have htk : (st.take (n + 1)).reverse = .ref a0 :: (st.take n).reverse := by
      rw [List.take_succ, ha0]; simp
    have hst : st.map (zv ad) = (((st.take n).reverse).map (zv ad)).reverse ++ .ref (ad a0) :: (st.drop (n + 1)).map (zv ad) := by
      rw [← z_split (n := n + 1) st, htk]
      simp [zv]
    rw [htk] at hM
    have hpre : PreV s H y.cls (ad a0) (zPc (.ref a0 :: (st.take n).reverse) g D ad cA T) (((st.take n).reverse).map (zv ad)) :=
      ⟨zPc_blind, va_recv hK hP hci (zW_at hz), fun U hU hW => ⟨rfl, by rw [hU]; exact hP, va_K.moved hW.alike hK, zNw.warm hW hN, hA⟩⟩
    have hlen : (((st.take n).reverse).map (zv ad)).length = n := by simp; omega
    have hcat2 : (((st.drop (n + 1)).map (zv ad)).map fun v => v.category).sum ≤ 8 := by rw [z_cats]; exact hcat
    have fin : va_Run p l e (R) s m args below meth c H locs ce sl 0 0 (F0 m pc la (st.map (zv ad))) ((st.drop (n + 1)).map (zv ad)) (zQc (fun r g => k (ls, r.toList ++ st.drop (n + 1), g)) D ad cA T (Value.ref (ad a0) :: ((st.take n).reverse).map (zv ad)).toArray) (zA T ad) → W p l e (R) s m args below meth c H locs ce sl Q (F0 m pc la (st.map (zv ad))) := by
      intro hr
      refine z_call hr hS (fun r g' H1 locs1 hp hP1 hS1 => ?_)
      have h9 := hk _ hp H1 locs1 la hP1 hS1 hl
      rw [List.map_append] at h9
      cases r with
      | none => exact h9
      | some v => exact h9
    cases b with
    | false =>
      exact fin (va_runV (C := y.cls) ⟨hx, hb, hml, hown, hts⟩ (hM D ad cA) ⟨callB_of n hts (zGood q1) rfl rfl rfl (hts _ q2) (hts _ hlk) ⟨q3, q4, q5⟩ hroom, hts _ hin, hts _ hsel⟩ hpre rfl hlen (hl.2.1.1) hst (lv_room hcat2) hd ⟨hR.2.2.1, hR.2.2.2⟩)
    | true =>
      exact fin (va_runVN (C := y.cls) ⟨hx, hb, hml, hown, hts⟩ (hM D ad cA) ⟨va_cnB n hts (zGood q1) rfl rfl rfl (hN _ hlk) (hts _ q2) ⟨q3, q4, q5⟩ hroom, hts _ hin, hts _ hsel⟩ hpre rfl hlen (hl.2.1.1) hst (lv_room hcat2) hd ⟨hR.2.2.1, hR.2.2.2⟩)
  · exact h.elim
theorem sn_retI {post : Option Value → zM → Prop} (hc : zCx p s m args c cc nL own D cA ad T) (hr : meth.sig.returnType = some .int) (hlocks : meth.locks = false) (hd : decode cc pc = .ok (.ireturn, 1)) : zK p l e R s m args below meth c nL D cA ad T s.heap 0 0 (MQ below (zQc post D ad cA T) args s 0 0 (zA T ad)) pc (oRetI post) := by
  rintro ⟨ls, st, g⟩ h H locs la hP hS hl
  simp only [oRetI] at h
  split at h
  · rename_i x
    exact W.iret hc.1 hc.2.1 hr (fun t ht hW => ⟨some (.int x), g, rfl, h, by rw [ht]; exact hP, hS.F ht⟩) hS.2.2 hd hlocks
  · exact h.elim
theorem sn_retZ {post : Option Value → zM → Prop} (hc : zCx p s m args c cc nL own D cA ad T) (hr : meth.sig.returnType = some .boolean) (hlocks : meth.locks = false) (hd : decode cc pc = .ok (.ireturn, 1)) : zK p l e R s m args below meth c nL D cA ad T s.heap 0 0 (MQ below (zQc post D ad cA T) args s 0 0 (zA T ad)) pc (oRetZ post) := by
  rintro ⟨ls, st, g⟩ h H locs la hP hS hl
  simp only [oRetZ] at h
  split at h
  · rename_i x
    exact W.zret hc.1 hc.2.1 hr (by rcases h.1 with rfl | rfl <;> rfl) (fun t ht hW => ⟨some (.int x), g, rfl, h.2, by rw [ht]; exact hP, hS.F ht⟩) hS.2.2 hd hlocks
  · exact h.elim
theorem sn_retV {post : Option Value → zM → Prop} (hc : zCx p s m args c cc nL own D cA ad T) (hr : meth.sig.returnType = none) (hlocks : meth.locks = false) (hd : decode cc pc = .ok (.return_, 1)) : zK p l e R s m args below meth c nL D cA ad T s.heap 0 0 (MQ below (zQc post D ad cA T) args s 0 0 (zA T ad)) pc (oRetV post) := by
  rintro ⟨ls, st, g⟩ h H locs la hP hS hl
  simp only [oRetV] at h
  split at h
  · exact W.vret hc.1 hc.2.1 hr (fun t ht hW => ⟨none, g, rfl, h, by rw [ht]; exact hP, hS.F ht⟩) hS.2.2 hd hlocks
  · exact h.elim
/-- switches -/
def zAl (p : Program) (l : Launch) (e : Env) (R : Room) (s : State) (m : MethodId) (args : Array Value) (below : List Frame) (meth : Method) (c : Code) (nL : Nat) (D : va_G) (cA : Nat → ClassId) (ad : Nat → Nat) (T : List zEn) (H0 : Heap) (ce sl : Nat) (Q : State → Prop) (pc : Nat) : Int → List Int → List (Int32 × (zS → Prop)) → Prop
  | _, [], [] => True
  | v, o :: os, (x, k) :: cs => x.toInt = v ∧ (∃ tgt : Nat, (pc : Int) + o = (tgt : Int) ∧ zK p l e R s m args below meth c nL D cA ad T H0 ce sl Q tgt k) ∧ zAl p l e R s m args below meth c nL D cA ad T H0 ce sl Q pc (v + 1) os cs
  | _, _, _ => False
theorem zAl_in {σ : zS} {kd : Prop} {x : Int32} : ∀ (os : List Int) (cs : List (Int32 × (zS → Prop))) (v : Int), zAl p l e R s m args below meth c nL D cA ad T H0 ce sl Q pc v os cs → oSw x kd (cs.map fun q => (q.1, q.2 σ)) → v ≤ x.toInt → x.toInt < v + os.length →
    ∃ (o : Int) (tgt : Nat), os[(x.toInt - v).toNat]? = some o ∧ (pc : Int) + o = (tgt : Int) ∧ zG p l e R s m args below meth c nL D cA ad T H0 ce sl Q tgt σ
  | [], _, v, _, _, h1, h2 => by simp at h2; omega
  | o :: os, [], v, h, _, _, _ => by simp [zAl] at h
  | o :: os, (y, k) :: cs, v, h, hs, h1, h2 => by
    obtain ⟨e1, ⟨tgt, e2, e3⟩, e4⟩ := h
    simp only [List.map_cons, oSw] at hs
    by_cases hx : x = y
    · subst hx
      refine ⟨o, tgt, ?_, e2, e3 _ (hs.1 rfl)⟩
      rw [e1, Int.sub_self]; rfl
    · have hne : x.toInt ≠ v := fun q => hx (Int32.toInt_inj.mp (by rw [q, e1]))
      obtain ⟨o', t', a1, a2, a3⟩ := zAl_in os cs (v + 1) e4 (hs.2 hx) (by omega) (by simp at h2; omega)
      refine ⟨o', t', ?_, a2, a3⟩
      rw [show (x.toInt - v).toNat = (x.toInt - (v + 1)).toNat + 1 by omega]
      simpa using a1
theorem zAl_out {σ : zS} {kd : Prop} {x : Int32} : ∀ (os : List Int) (cs : List (Int32 × (zS → Prop))) (v : Int), zAl p l e R s m args below meth c nL D cA ad T H0 ce sl Q pc v os cs → oSw x kd (cs.map fun q => (q.1, q.2 σ)) → (x.toInt < v ∨ v + os.length ≤ x.toInt) → kd
  | [], [], v, _, hs, _ => hs
  | [], q :: cs, v, h, _, _ => by simp [zAl] at h
  | o :: os, [], v, h, _, _ => by simp [zAl] at h
  | o :: os, (y, k) :: cs, v, h, hs, h1 => by
    obtain ⟨e1, -, e4⟩ := h
    simp only [List.map_cons, oSw] at hs
    have hne : ¬ x = y := fun q => by subst q; simp at h1; omega
    exact zAl_out os cs (v + 1) e4 (hs.2 hne) (by simp at h1; omega)
theorem sn_tsw (hc : zCx p s m args c cc nL own D cA ad T) {dflt lo hi : Int} {offs : Array Int} {len tgt : Nat} {cs : List (Int32 × (zS → Prop))} {kd : zS → Prop} (hd : decode cc pc = .ok (.tableswitch dflt lo hi offs, len)) (hh : lo + offs.size = hi + 1) (ht : (pc : Int) + dflt = (tgt : Int)) (hcs : zAl p l e R s m args below meth c nL D cA ad T H0 ce sl Q pc lo offs.toList cs)
    (hkd : zK p l e R s m args below meth c nL D cA ad T H0 ce sl Q tgt kd) : zK p l e R s m args below meth c nL D cA ad T H0 ce sl Q pc (oSwitch cs kd) := by
  rintro ⟨ls, st, g⟩ h H locs la hP hS hl
  simp only [oSwitch] at h
  split at h
  · rename_i x st'
    by_cases h1 : x.toInt < lo ∨ hi < x.toInt
    · have h2 := zAl_out offs.toList cs lo hcs h (by simp; omega)
      exact lv_tableOut hc.1 hc.2.1 hd h1 ht (hkd _ h2 H locs la hP hS hl)
    · obtain ⟨o, t2, a1, a2, a3⟩ := zAl_in offs.toList cs lo hcs h (by omega) (by simp; omega)
      exact lv_tableIn hc.1 hc.2.1 hd (by omega) (by omega) (by simpa using a1) a2 (a3 H locs la hP hS hl)
  · exact h.elim
def zAk (p : Program) (l : Launch) (e : Env) (R : Room) (s : State) (m : MethodId) (args : Array Value) (below : List Frame) (meth : Method) (c : Code) (nL : Nat) (D : va_G) (cA : Nat → ClassId) (ad : Nat → Nat) (T : List zEn) (H0 : Heap) (ce sl : Nat) (Q : State → Prop) (pc : Nat) : List (Int × Int) → List (Int32 × (zS → Prop)) → Prop
  | [], [] => True
  | o :: os, (x, k) :: cs => x.toInt = o.1 ∧ (∃ tgt : Nat, (pc : Int) + o.2 = (tgt : Int) ∧ zK p l e R s m args below meth c nL D cA ad T H0 ce sl Q tgt k) ∧ zAk p l e R s m args below meth c nL D cA ad T H0 ce sl Q pc os cs
  | _, _ => False
theorem zAk_in {σ : zS} {kd : zS → Prop} {x : Int32} {dflt : Int} {td : Nat} (ht : (pc : Int) + dflt = (td : Int)) (hkd : zK p l e R s m args below meth c nL D cA ad T H0 ce sl Q td kd) : ∀ (os : List (Int × Int)) (cs : List (Int32 × (zS → Prop))), zAk p l e R s m args below meth c nL D cA ad T H0 ce sl Q pc os cs → oSw x (kd σ) (cs.map fun q => (q.1, q.2 σ)) →
    ∃ tgt : Nat, (pc : Int) + Op.lookupswitch.offset os dflt x.toInt = (tgt : Int) ∧ zG p l e R s m args below meth c nL D cA ad T H0 ce sl Q tgt σ
  | [], [], _, hs => ⟨td, by first | exact ht | simpa [Op.lookupswitch.offset] using ht, hkd _ hs⟩
  | [], q :: cs, h, _ => by simp [zAk] at h
  | o :: os, [], h, _ => by simp [zAk] at h
  | (a, b) :: os, (y, k) :: cs, h, hs => by
    obtain ⟨e1, ⟨tgt, e2, e3⟩, e4⟩ := h
    simp only [List.map_cons, oSw] at hs
    by_cases hx : x = y
    · subst hx
      refine ⟨tgt, ?_, e3 _ (hs.1 rfl)⟩
      rw [Op.lookupswitch.offset_cons, if_pos e1.symm]
      exact e2
    · obtain ⟨t', a2, a3⟩ := zAk_in ht hkd os cs e4 (hs.2 hx)
      exact ⟨t', by rw [lv_osw hx e1]; exact a2, a3⟩
theorem sn_lsw (hc : zCx p s m args c cc nL own D cA ad T) {dflt : Int} {ps : Array (Int × Int)} {len tgt : Nat} {cs : List (Int32 × (zS → Prop))} {kd : zS → Prop} (hd : decode cc pc = .ok (.lookupswitch dflt ps, len)) (hp : (ps.toList.zip (ps.toList.drop 1)).all (fun (a, next) => a.1 < next.1) = true) (ht : (pc : Int) + dflt = (tgt : Int)) (hcs : zAk p l e R s m args below meth c nL D cA ad T H0 ce sl Q pc ps.toList cs)
    (hkd : zK p l e R s m args below meth c nL D cA ad T H0 ce sl Q tgt kd) : zK p l e R s m args below meth c nL D cA ad T H0 ce sl Q pc (oSwitch cs kd) := by
  rintro ⟨ls, st, g⟩ h H locs la hP hS hl
  simp only [oSwitch] at h
  split at h
  · rename_i x st'
    obtain ⟨t2, a2, a3⟩ := zAk_in (σ := (ls, st', g)) ht hkd ps.toList cs hcs h
    exact lv_lookup hc.1 hc.2.1 hd hp rfl a2 (a3 H locs la hP hS hl)
  · exact h.elim
end ZCALL
def oMax (k : zS → Prop) : zS → Prop := fun σ => match σ.2.1 with
  | .int y :: .int x :: st => (st.map fun v => v.category).sum ≤ 8 ∧ k (σ.1, .int (if x < y then y else x) :: st, σ.2.2)
  | _ => False
/-- entry -/
def zent (nL : Nat) (as : List Value) (g : zM) : zS := (as.map some ++ List.replicate (nL - as.length) none, [], g)
theorem lg_sl_cat {vs : List Value} (h : ∀ v ∈ vs, v.category = 1) : lg_sl vs = vs.map Slot.val := by
  induction vs with
  | nil => rfl
  | cons v vs ih =>
    have h1 := h v List.mem_cons_self
    have h2 := ih (fun w hw => h w (List.mem_cons_of_mem _ hw))
    unfold lg_sl at h2 ⊢
    simp [h1, h2]
theorem lv_args_mem : ∀ (vs : List Value) (a i : Nat) (v : Value), (∀ v ∈ vs, v.category = 1) → vs[i]? = some v → (a + i, v) ∈ lv_args a vs
  | [], _, _, _, _, h => by simp at h
  | w :: vs, a, 0, v, _, h => by simp at h; subst h; simp [lv_args]
  | w :: vs, a, i + 1, v, hc, h => by
    have h1 : vs[i]? = some v := by simpa using h
    have h2 := lv_args_mem vs (a + 1) i v (fun u hu => hc u (List.mem_cons_of_mem _ hu)) h1
    have h3 := hc w List.mem_cons_self
    simp only [lv_args, h3]
    rw [show a + (i + 1) = a + 1 + i by omega]
    exact List.mem_cons_of_mem _ h2
theorem Sem.of {l : Launch} {T : List zEn} {d maxL : Nat} {y : MethodName} {bytes : ByteArray} {ret : Option FieldType} {as : List Value} {g : zM} {post : Option Value → zM → Prop} (hy : plainName y.cls = true) (hlen : as.length ≤ maxL) (hcat : ∀ v ∈ as, v.category = 1)
    (body : ∀ (p : Program) (e : Env) (s : State) (m : MethodId) (args : Array Value) (below : List Frame) (meth : Method) (c : Code) (D : va_G) (cA : Nat → ClassId) (ad : Nat → Nat), zCx p s m args c bytes maxL y.cls D cA ad T → meth.sig.returnType = ret → meth.locks = false →
      zG p l e (zRm d) s m args below meth c maxL D cA ad T s.heap 0 0 (MQ below (zQc post D ad cA T) args s 0 0 (zA T ad)) 0 (zent maxL as g)) :
    Sem l T (Cond.code y bytes maxL ret :: zWS) d y as g post := by
  intro D ad cA
  refine Met.ofW (cc := bytes) (maxL := maxL) (ret := ret) hy rfl ?_
  intro p e s m args below meth c s₁ B hml hv
  obtain ⟨rfl, hP, hK, hN, hA⟩ := hv
  have hts := atoms_spec (ws := Cond.code y bytes maxL ret :: zWS) B.pre
  have hcat' : ∀ v ∈ as.map (zv ad), v.category = 1 := by
    intro v hv
    obtain ⟨w, hw, rfl⟩ := List.mem_map.mp hv
    rw [zv_cat]; exact hcat w hw
  have hl := lv_entry (as.map (zv ad)) (n := maxL) (by rw [lg_sl_cat hcat']; simpa using hlen)
  rw [lg_entry_eq]
  generalize (lg_sl (as.map (zv ad)) ++ List.replicate (maxL - (lg_sl (as.map (zv ad))).length) Slot.unset).toArray = la at hl ⊢
  have key : ∀ (i : Nat) (v : Value), (as.map some ++ List.replicate (maxL - as.length) (none : Option Value))[i]? = some (some v) → as[i]? = some v := by
    intro i v h
    by_cases hi : i < as.length
    · rw [List.getElem?_append_left (by simpa using hi), List.getElem?_map] at h
      cases h2 : as[i]? with
      | none => rw [h2] at h; cases h
      | some w => rw [h2] at h; cases h; rfl
    · rw [List.getElem?_append_right (by simpa using hi)] at h
      have := List.mem_of_getElem? h
      simp at this
  refine body p e s m _ below meth c D cA ad ⟨B.exec, B.bytes, hml, findClass_of_methodNamed B.named, fun w hw => hts w (List.mem_cons_of_mem _ hw), hK, hN, hA⟩ B.returns B.notSynchronized s.heap [] la hP va_S.rf ⟨?_, ⟨hl.1, hl.2.1, ?_⟩, ?_⟩
  · simp [zent]; omega
  · rintro ⟨i, w⟩ hq
    obtain ⟨v, hv, rfl⟩ := zlv_mem.mp hq
    apply hl.2.2
    have h1 := key i v hv
    have h2 := lv_args_mem (as.map (zv ad)) 0 i (zv ad v) hcat' (by rw [List.getElem?_map, h1]; rfl)
    rwa [Nat.zero_add] at h2
  · intro i v hv
    exact hcat v (List.mem_of_getElem? (key i v hv))
