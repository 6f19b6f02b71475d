/-! the law's start: the classes, the array classes, what a throw needs; the constructors; the loop -/
set_option maxRecDepth 100000 in
theorem zNM_in : ∀ q ∈ zNM, Cond.methodLinkNest q.1 q.2.1 q.2.2.1 q.2.2.2 ∈ lw_tbl := by decide +kernel
set_option maxRecDepth 100000 in
theorem zXL_in : ∀ w ∈ zXL, w.onTables = true ∧ w ∈ lw_tbl := by decide +kernel
set_option maxRecDepth 100000 in
theorem zTs_in : ∀ q ∈ zTxt, Cond.stringRef rr_X q.1 q.2 ∈ lw_tbl := by decide +kernel
set_option maxRecDepth 100000 in
theorem zTe_in : ∀ q ∈ zTxt, Cond.exactly (.string rr_X q.1) "java/lang/String" ∈ flatC (Jvm.Cond.and given_1 narrow_1) := by decide +kernel
set_option maxRecDepth 100000 in
theorem zNc_in : ∀ q ∈ zNC, Cond.not (.castable q.1 q.2) ∈ flatC (Jvm.Cond.and given_1 narrow_1) := by decide +kernel
set_option maxRecDepth 100000 in
theorem zTh_in : (Cond.laysStatic Bundle.tN "UNASSIGNED_STACK" Bundle.steD ∈ lw_tbl ∧ Cond.laysStatic Bundle.tN "SUPPRESSED_SENTINEL" Bundle.listD ∈ lw_tbl ∧ Cond.initialized Bundle.tN ∈ lw_tbl) ∧ Cond.isRef (.static Bundle.tN "UNASSIGNED_STACK" Bundle.steD) ∈ flatC (Jvm.Cond.and given_1 narrow_1) ∧ Cond.isRef (.static Bundle.tN "SUPPRESSED_SENTINEL" Bundle.listD) ∈ flatC (Jvm.Cond.and given_1 narrow_1) := by decide +kernel
theorem zTx_start {args : Array Value} {s : State} (htl : ∀ w ∈ lw_tbl, w.before args s = true) (hgv : (Jvm.Cond.and given_1 narrow_1).before args s = true) : zTx (fun q => s.heap.size ≤ q) s s.heap := by
  have hfl := flat_of_before _ hgv
  obtain ⟨⟨t1, t2, t3⟩, t4, t5⟩ := zTh_in
  refine ⟨vx_Zqof (htl _ t1) (htl _ t3) (hfl _ t4) (fun a h9 => Nat.not_le.mpr h9), vx_Zqof (htl _ t2) (htl _ t3) (hfl _ t5) (fun a h9 => Nat.not_le.mpr h9), fun q hq => ?_, fun w hw => va_Nw.of (zXL_in w hw).1 (htl _ (zXL_in w hw).2), fun q hq => va_Nc.of (hfl _ (zNc_in q hq))⟩
  obtain ⟨a, cQ, cell, kQ, ha, -⟩ := Cond.exactly_spec (hfl _ (zTe_in q hq))
  exact ⟨a, vk_R.of (htl _ (zTs_in q hq)) ha⟩
theorem zArr {args : Array Value} {s : State} {ty : FieldType} (hra : ∀ (U : State) (cA : ClassId), U.vm.findClass ("[" ++ ty.toString) = some cA → va_RA U cA ty) (h : (Cond.arrayClass ty).before args s = true) : ∃ cA : ClassId, ArrOfT s cA ty ∧ va_RA s cA ty := by
  obtain ⟨c, k, comp, h1, h2, h3⟩ := Cond.arrayClass_spec h
  exact ⟨c, fun n z => ⟨fun k h => (by cases h), k, h2, comp, h3⟩, hra s c h1⟩
theorem zK_start {args : Array Value} {s : State} (hts : ∀ w ∈ zWS, w.before args s = true) : ∃ (D : va_G) (cA : Nat → ClassId), va_K D zCl [(cA 0, .int), (cA 1, .boolean), (cA 2, .long)] s := by
  obtain ⟨c0, i0, k0⟩ := u_known hts fin_X (hts _ ia_X)
  obtain ⟨c1, i1, k1⟩ := u_known hts fin_S (hts _ ia_S)
  obtain ⟨c2, i2, k2⟩ := u_known hts fin_P (hts _ ia_P)
  obtain ⟨c3, i3, k3⟩ := u_known hts fin_R (hts _ ia_R)
  obtain ⟨c4, i4, k4⟩ := u_known hts fin_M (hts _ ia_M)
  obtain ⟨a0, h0⟩ := zArr (ty := .int) (fun _ _ h => h) (hts _ ac_int)
  obtain ⟨a1, h1⟩ := zArr (ty := .boolean) (fun _ _ h => h) (hts _ ac_boolean)
  obtain ⟨a2, h2⟩ := zArr (ty := .long) (fun _ _ h => h) (hts _ ac_long)
  refine ⟨(fun k => match k with | 0 => c0 | 1 => c1 | 2 => c2 | 3 => c3 | _ => c4, fun k => match k with | 0 => i0 | 1 => i1 | 2 => i2 | 3 => i3 | _ => i4), (fun k => match k with | 0 => a0 | 1 => a1 | _ => a2), fun c q hq => ?_, fun k q hq => ?_⟩
  · match c, hq with
    | 0, hq => cases hq; exact k0
    | 1, hq => cases hq; exact k1
    | 2, hq => cases hq; exact k2
    | 3, hq => cases hq; exact k3
    | 4, hq => cases hq; exact k4
    | (n + 5), hq => cases hq
  · match k, hq with
    | 0, hq => cases hq; exact h0
    | 1, hq => cases hq; exact h1
    | 2, hq => cases hq; exact h2
    | (n + 3), hq => cases hq
theorem rel_0 : rRel 0 (fun _ _ => 0) := by
  refine ⟨(0, fun _ => 0, fun _ => 0, fun _ => 0, fun _ => 0, fun _ => 0, fun _ => 0, fun _ => 0, fun _ => 0, fun _ => 0, fun _ => false), ⟨by decide, ⟨rfl, rfl, rfl, rfl, rfl, rfl⟩, fun i hi => absurd hi (Nat.not_lt_zero i)⟩, ⟨rfl, fun i hi => absurd hi (Nat.not_lt_zero i)⟩, ⟨rfl, fun i hi => absurd hi (Nat.not_lt_zero i)⟩, rfl, rfl, Or.inl ⟨rfl, rfl, rfl, rfl, rfl, rfl, rfl, rfl⟩⟩
