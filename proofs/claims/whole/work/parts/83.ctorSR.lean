/-! constructors: written by a program -/
set_option maxHeartbeats 8000000 in
set_option maxRecDepth 100000 in
theorem ci_S (l : Launch) (D : va_G) (cA : Nat → ClassId) (h0 sz : Nat) : Met l yy_S_init (Cond.code yy_S_init cc_S_init 1 none :: zWS) ({ frames := 2, cells := 10, slots := 600, locals := 128 }) (va_Pc [.ref h0] (fun U => U.heap.size = sz ∧ va_P D zCl [(h0, .inr (1, [.null, .null, .null, .null, .null, .null, .null, .null, .null, .null, .int 0]))] U.heap ∧ va_K D zCl [(cA 0, .int), (cA 1, .boolean), (cA 2, .long)] U ∧ zNw U ∧ va_D (fun _ => True) [(h0, .inr (1, [.null, .null, .null, .null, .null, .null, .null, .null, .null, .null, .int 0]))])) (va_Qv (fun ad : Nat → Nat => ad 0 = h0) (fun ad t => va_P D zCl (zW ad cA (fun _ _ => 0) 0 zT_S) t.heap ∧ va_D (va_A [(h0, .inr (1, [.null, .null, .null, .null, .null, .null, .null, .null, .null, .null, .int 0]))] sz) (zW ad cA (fun _ _ => 0) 0 zT_S)) (va_A [(h0, .inr (1, [.null, .null, .null, .null, .null, .null, .null, .null, .null, .null, .int 0]))] sz)) 10 600 (va_A [(h0, .inr (1, [.null, .null, .null, .null, .null, .null, .null, .null, .null, .null, .int 0]))] sz) := by
  refine Met.ofW (cc := cc_S_init) (maxL := 1) (ret := none) (by decide) rfl ?_
  intro p e s m args below meth c s₁ B hml hv
  obtain ⟨rfl, hsz, hP, hK, hN, hD0⟩ := hv
  have hx := B.exec
  have hb := B.bytes
  have hr := B.returns
  have hts0 := atoms_spec (ws := Cond.code yy_S_init cc_S_init 1 none :: zWS) B.pre
  have hts : ∀ w ∈ zWS, w.before _ s = true := fun w hw => hts0 w (List.mem_cons_of_mem _ hw)
  have hown : s.vm.findClass rr_S = some m.cls := findClass_of_methodNamed B.named
  have hlocks := B.notSynchronized
  have hin : meth.name = "<init>" := (name_of_methodNamed B.named B.method).1
  subst hsz
  have hD := hD0.self (sz := s.heap.size)
  generalize hAe : va_A [(h0, .inr (1, [.null, .null, .null, .null, .null, .null, .null, .null, .null, .null, .int 0]))] s.heap.size = A at hD ⊢
  have hA : ∀ q : Nat, s.heap.size ≤ q → A q := fun q h => by rw [← hAe]; exact Or.inr h
  have hS : va_S A s.heap s.heap [] := va_S.rf
  have hl := lv_entry ([.ref h0]) (n := 1) (Nat.le_of_ble_eq_true rfl)
  rw [lg_entry_eq]
  generalize (lg_sl ([.ref h0]) ++ List.replicate (1 - (lg_sl ([.ref h0])).length) Slot.unset).toArray = ls at hl ⊢
  have hl : lv_has ls 1 [(0, .ref h0)] := hl
  refine lv_aload_n hx hb dd_S_init_0 rfl (lv_at hl 0 rfl) ?_
  refine W.objInit hx hb hown (hts _ oi_S_3) (hts _ oi_im) (hts _ oi_cd) rfl (by rw [hml]; exact hl.1) rfl dd_S_init_1 (Nat.le_of_ble_eq_true rfl) (Nat.le_of_ble_eq_true rfl) ?_
  refine W.eq (g2 := F0 m 4 ls []) rfl ?_
  refine lv_aload_n hx hb dd_S_init_4 rfl (lv_at hl 0 rfl) ?_
  refine lv_bipush (v := 60) hx hb dd_S_init_5 (by decide) ?_
  refine va_newaZ (atype := .int) (N' := 60) (a0 := (60, .inl (fun _ => 0))) (ty := .int) (n := 60) (t0 := 0) (cA0 := cA 0) hx hb (hts _ ac_int) rfl (fun _ _ h => h) hK rfl hP hD hS hA (fun _ => rfl) (by decide) (by decide) (by decide) (Nat.le_of_ble_eq_true rfl) (Nat.le_of_ble_eq_true rfl) dd_S_init_7 (fun q7 H hP hD hS => ?_)
  have hP : va_P D zCl [(h0, .inr (1, [.null, .null, .null, .null, .null, .null, .null, .null, .null, .null, .int 0])), (q7, .inl (cA 0, 60, .inl fun _ => 0))] H := hP
  have hD : va_D A [(h0, .inr (1, [.null, .null, .null, .null, .null, .null, .null, .null, .null, .null, .int 0])), (q7, .inl (cA 0, 60, .inl fun _ => 0))] := hD
  refine W.widen (k := 1) (n := 60) (Nat.le_of_ble_eq_true rfl) (Nat.le_of_ble_eq_true rfl) ?_
  refine va_putF (D := D) (ci := 1) (v := .ref q7) (ty := .array .int) (C := rr_S) (T := ft_S) (N := 11) hx hb hts fin_S fy_S fty_S fnm_S hown hK hP hD hS 0 rfl rfl 0 (by decide) (hts _ (fl_S_9)) (fun _ h9 => h9) rfl hin rfl (by decide +kernel) rfl rfl (Nat.le_of_ble_eq_true rfl) dd_S_init_9 (fun H locs hP hD hS => ?_)
  have hP : va_P D zCl [(h0, .inr (1, [.ref q7, .null, .null, .null, .null, .null, .null, .null, .null, .null, .int 0])), (q7, .inl (cA 0, 60, .inl fun _ => 0))] H := hP
  have hD : va_D A [(h0, .inr (1, [.ref q7, .null, .null, .null, .null, .null, .null, .null, .null, .null, .int 0])), (q7, .inl (cA 0, 60, .inl fun _ => 0))] := hD
  refine lv_aload_n hx hb dd_S_init_12 rfl (lv_at hl 0 rfl) ?_
  refine lv_bipush (v := 60) hx hb dd_S_init_13 (by decide) ?_
  refine va_newaZ (atype := .int) (N' := 60) (a0 := (60, .inl (fun _ => 0))) (ty := .int) (n := 60) (t0 := 0) (cA0 := cA 0) hx hb (hts _ ac_int) rfl (fun _ _ h => h) hK rfl hP hD hS hA (fun _ => rfl) (by decide) (by decide) (by decide) (Nat.le_of_ble_eq_true rfl) (Nat.le_of_ble_eq_true rfl) dd_S_init_15 (fun q15 H hP hD hS => ?_)
  have hP : va_P D zCl [(h0, .inr (1, [.ref q7, .null, .null, .null, .null, .null, .null, .null, .null, .null, .int 0])), (q7, .inl (cA 0, 60, .inl fun _ => 0)), (q15, .inl (cA 0, 60, .inl fun _ => 0))] H := hP
  have hD : va_D A [(h0, .inr (1, [.ref q7, .null, .null, .null, .null, .null, .null, .null, .null, .null, .int 0])), (q7, .inl (cA 0, 60, .inl fun _ => 0)), (q15, .inl (cA 0, 60, .inl fun _ => 0))] := hD
  refine W.widen (k := 2) (n := 120) (Nat.le_of_ble_eq_true rfl) (Nat.le_of_ble_eq_true rfl) ?_
  refine va_putF (D := D) (ci := 1) (v := .ref q15) (ty := .array .int) (C := rr_S) (T := ft_S) (N := 11) hx hb hts fin_S fy_S fty_S fnm_S hown hK hP hD hS 0 rfl rfl 1 (by decide) (hts _ (fl_S_15)) (fun _ h9 => h9) rfl hin rfl (by decide +kernel) rfl rfl (Nat.le_of_ble_eq_true rfl) dd_S_init_17 (fun H locs hP hD hS => ?_)
  have hP : va_P D zCl [(h0, .inr (1, [.ref q7, .ref q15, .null, .null, .null, .null, .null, .null, .null, .null, .int 0])), (q7, .inl (cA 0, 60, .inl fun _ => 0)), (q15, .inl (cA 0, 60, .inl fun _ => 0))] H := hP
  have hD : va_D A [(h0, .inr (1, [.ref q7, .ref q15, .null, .null, .null, .null, .null, .null, .null, .null, .int 0])), (q7, .inl (cA 0, 60, .inl fun _ => 0)), (q15, .inl (cA 0, 60, .inl fun _ => 0))] := hD
  refine lv_aload_n hx hb dd_S_init_20 rfl (lv_at hl 0 rfl) ?_
  refine lv_bipush (v := 60) hx hb dd_S_init_21 (by decide) ?_
  refine va_newaZ (atype := .int) (N' := 60) (a0 := (60, .inl (fun _ => 0))) (ty := .int) (n := 60) (t0 := 0) (cA0 := cA 0) hx hb (hts _ ac_int) rfl (fun _ _ h => h) hK rfl hP hD hS hA (fun _ => rfl) (by decide) (by decide) (by decide) (Nat.le_of_ble_eq_true rfl) (Nat.le_of_ble_eq_true rfl) dd_S_init_23 (fun q23 H hP hD hS => ?_)
  have hP : va_P D zCl [(h0, .inr (1, [.ref q7, .ref q15, .null, .null, .null, .null, .null, .null, .null, .null, .int 0])), (q7, .inl (cA 0, 60, .inl fun _ => 0)), (q15, .inl (cA 0, 60, .inl fun _ => 0)), (q23, .inl (cA 0, 60, .inl fun _ => 0))] H := hP
  have hD : va_D A [(h0, .inr (1, [.ref q7, .ref q15, .null, .null, .null, .null, .null, .null, .null, .null, .int 0])), (q7, .inl (cA 0, 60, .inl fun _ => 0)), (q15, .inl (cA 0, 60, .inl fun _ => 0)), (q23, .inl (cA 0, 60, .inl fun _ => 0))] := hD
  refine W.widen (k := 3) (n := 180) (Nat.le_of_ble_eq_true rfl) (Nat.le_of_ble_eq_true rfl) ?_
  refine va_putF (D := D) (ci := 1) (v := .ref q23) (ty := .array .int) (C := rr_S) (T := ft_S) (N := 11) hx hb hts fin_S fy_S fty_S fnm_S hown hK hP hD hS 0 rfl rfl 2 (by decide) (hts _ (fl_S_18)) (fun _ h9 => h9) rfl hin rfl (by decide +kernel) rfl rfl (Nat.le_of_ble_eq_true rfl) dd_S_init_25 (fun H locs hP hD hS => ?_)
  have hP : va_P D zCl [(h0, .inr (1, [.ref q7, .ref q15, .ref q23, .null, .null, .null, .null, .null, .null, .null, .int 0])), (q7, .inl (cA 0, 60, .inl fun _ => 0)), (q15, .inl (cA 0, 60, .inl fun _ => 0)), (q23, .inl (cA 0, 60, .inl fun _ => 0))] H := hP
  have hD : va_D A [(h0, .inr (1, [.ref q7, .ref q15, .ref q23, .null, .null, .null, .null, .null, .null, .null, .int 0])), (q7, .inl (cA 0, 60, .inl fun _ => 0)), (q15, .inl (cA 0, 60, .inl fun _ => 0)), (q23, .inl (cA 0, 60, .inl fun _ => 0))] := hD
  refine lv_aload_n hx hb dd_S_init_28 rfl (lv_at hl 0 rfl) ?_
  refine lv_bipush (v := 60) hx hb dd_S_init_29 (by decide) ?_
  refine va_newaZ (atype := .int) (N' := 60) (a0 := (60, .inl (fun _ => 0))) (ty := .int) (n := 60) (t0 := 0) (cA0 := cA 0) hx hb (hts _ ac_int) rfl (fun _ _ h => h) hK rfl hP hD hS hA (fun _ => rfl) (by decide) (by decide) (by decide) (Nat.le_of_ble_eq_true rfl) (Nat.le_of_ble_eq_true rfl) dd_S_init_31 (fun q31 H hP hD hS => ?_)
  have hP : va_P D zCl [(h0, .inr (1, [.ref q7, .ref q15, .ref q23, .null, .null, .null, .null, .null, .null, .null, .int 0])), (q7, .inl (cA 0, 60, .inl fun _ => 0)), (q15, .inl (cA 0, 60, .inl fun _ => 0)), (q23, .inl (cA 0, 60, .inl fun _ => 0)), (q31, .inl (cA 0, 60, .inl fun _ => 0))] H := hP
  have hD : va_D A [(h0, .inr (1, [.ref q7, .ref q15, .ref q23, .null, .null, .null, .null, .null, .null, .null, .int 0])), (q7, .inl (cA 0, 60, .inl fun _ => 0)), (q15, .inl (cA 0, 60, .inl fun _ => 0)), (q23, .inl (cA 0, 60, .inl fun _ => 0)), (q31, .inl (cA 0, 60, .inl fun _ => 0))] := hD
  refine W.widen (k := 4) (n := 240) (Nat.le_of_ble_eq_true rfl) (Nat.le_of_ble_eq_true rfl) ?_
  refine va_putF (D := D) (ci := 1) (v := .ref q31) (ty := .array .int) (C := rr_S) (T := ft_S) (N := 11) hx hb hts fin_S fy_S fty_S fnm_S hown hK hP hD hS 0 rfl rfl 3 (by decide) (hts _ (fl_S_21)) (fun _ h9 => h9) rfl hin rfl (by decide +kernel) rfl rfl (Nat.le_of_ble_eq_true rfl) dd_S_init_33 (fun H locs hP hD hS => ?_)
  have hP : va_P D zCl [(h0, .inr (1, [.ref q7, .ref q15, .ref q23, .ref q31, .null, .null, .null, .null, .null, .null, .int 0])), (q7, .inl (cA 0, 60, .inl fun _ => 0)), (q15, .inl (cA 0, 60, .inl fun _ => 0)), (q23, .inl (cA 0, 60, .inl fun _ => 0)), (q31, .inl (cA 0, 60, .inl fun _ => 0))] H := hP
  have hD : va_D A [(h0, .inr (1, [.ref q7, .ref q15, .ref q23, .ref q31, .null, .null, .null, .null, .null, .null, .int 0])), (q7, .inl (cA 0, 60, .inl fun _ => 0)), (q15, .inl (cA 0, 60, .inl fun _ => 0)), (q23, .inl (cA 0, 60, .inl fun _ => 0)), (q31, .inl (cA 0, 60, .inl fun _ => 0))] := hD
  refine lv_aload_n hx hb dd_S_init_36 rfl (lv_at hl 0 rfl) ?_
  refine lv_bipush (v := 60) hx hb dd_S_init_37 (by decide) ?_
  refine va_newaZ (atype := .int) (N' := 60) (a0 := (60, .inl (fun _ => 0))) (ty := .int) (n := 60) (t0 := 0) (cA0 := cA 0) hx hb (hts _ ac_int) rfl (fun _ _ h => h) hK rfl hP hD hS hA (fun _ => rfl) (by decide) (by decide) (by decide) (Nat.le_of_ble_eq_true rfl) (Nat.le_of_ble_eq_true rfl) dd_S_init_39 (fun q39 H hP hD hS => ?_)
  have hP : va_P D zCl [(h0, .inr (1, [.ref q7, .ref q15, .ref q23, .ref q31, .null, .null, .null, .null, .null, .null, .int 0])), (q7, .inl (cA 0, 60, .inl fun _ => 0)), (q15, .inl (cA 0, 60, .inl fun _ => 0)), (q23, .inl (cA 0, 60, .inl fun _ => 0)), (q31, .inl (cA 0, 60, .inl fun _ => 0)), (q39, .inl (cA 0, 60, .inl fun _ => 0))] H := hP
  have hD : va_D A [(h0, .inr (1, [.ref q7, .ref q15, .ref q23, .ref q31, .null, .null, .null, .null, .null, .null, .int 0])), (q7, .inl (cA 0, 60, .inl fun _ => 0)), (q15, .inl (cA 0, 60, .inl fun _ => 0)), (q23, .inl (cA 0, 60, .inl fun _ => 0)), (q31, .inl (cA 0, 60, .inl fun _ => 0)), (q39, .inl (cA 0, 60, .inl fun _ => 0))] := hD
  refine W.widen (k := 5) (n := 300) (Nat.le_of_ble_eq_true rfl) (Nat.le_of_ble_eq_true rfl) ?_
  refine va_putF (D := D) (ci := 1) (v := .ref q39) (ty := .array .int) (C := rr_S) (T := ft_S) (N := 11) hx hb hts fin_S fy_S fty_S fnm_S hown hK hP hD hS 0 rfl rfl 4 (by decide) (hts _ (fl_S_24)) (fun _ h9 => h9) rfl hin rfl (by decide +kernel) rfl rfl (Nat.le_of_ble_eq_true rfl) dd_S_init_41 (fun H locs hP hD hS => ?_)
  have hP : va_P D zCl [(h0, .inr (1, [.ref q7, .ref q15, .ref q23, .ref q31, .ref q39, .null, .null, .null, .null, .null, .int 0])), (q7, .inl (cA 0, 60, .inl fun _ => 0)), (q15, .inl (cA 0, 60, .inl fun _ => 0)), (q23, .inl (cA 0, 60, .inl fun _ => 0)), (q31, .inl (cA 0, 60, .inl fun _ => 0)), (q39, .inl (cA 0, 60, .inl fun _ => 0))] H := hP
  have hD : va_D A [(h0, .inr (1, [.ref q7, .ref q15, .ref q23, .ref q31, .ref q39, .null, .null, .null, .null, .null, .int 0])), (q7, .inl (cA 0, 60, .inl fun _ => 0)), (q15, .inl (cA 0, 60, .inl fun _ => 0)), (q23, .inl (cA 0, 60, .inl fun _ => 0)), (q31, .inl (cA 0, 60, .inl fun _ => 0)), (q39, .inl (cA 0, 60, .inl fun _ => 0))] := hD
  refine lv_aload_n hx hb dd_S_init_44 rfl (lv_at hl 0 rfl) ?_
  refine lv_bipush (v := 60) hx hb dd_S_init_45 (by decide) ?_
  refine va_newaZ (atype := .int) (N' := 60) (a0 := (60, .inl (fun _ => 0))) (ty := .int) (n := 60) (t0 := 0) (cA0 := cA 0) hx hb (hts _ ac_int) rfl (fun _ _ h => h) hK rfl hP hD hS hA (fun _ => rfl) (by decide) (by decide) (by decide) (Nat.le_of_ble_eq_true rfl) (Nat.le_of_ble_eq_true rfl) dd_S_init_47 (fun q47 H hP hD hS => ?_)
  have hP : va_P D zCl [(h0, .inr (1, [.ref q7, .ref q15, .ref q23, .ref q31, .ref q39, .null, .null, .null, .null, .null, .int 0])), (q7, .inl (cA 0, 60, .inl fun _ => 0)), (q15, .inl (cA 0, 60, .inl fun _ => 0)), (q23, .inl (cA 0, 60, .inl fun _ => 0)), (q31, .inl (cA 0, 60, .inl fun _ => 0)), (q39, .inl (cA 0, 60, .inl fun _ => 0)), (q47, .inl (cA 0, 60, .inl fun _ => 0))] H := hP
  have hD : va_D A [(h0, .inr (1, [.ref q7, .ref q15, .ref q23, .ref q31, .ref q39, .null, .null, .null, .null, .null, .int 0])), (q7, .inl (cA 0, 60, .inl fun _ => 0)), (q15, .inl (cA 0, 60, .inl fun _ => 0)), (q23, .inl (cA 0, 60, .inl fun _ => 0)), (q31, .inl (cA 0, 60, .inl fun _ => 0)), (q39, .inl (cA 0, 60, .inl fun _ => 0)), (q47, .inl (cA 0, 60, .inl fun _ => 0))] := hD
  refine W.widen (k := 6) (n := 360) (Nat.le_of_ble_eq_true rfl) (Nat.le_of_ble_eq_true rfl) ?_
  refine va_putF (D := D) (ci := 1) (v := .ref q47) (ty := .array .int) (C := rr_S) (T := ft_S) (N := 11) hx hb hts fin_S fy_S fty_S fnm_S hown hK hP hD hS 0 rfl rfl 5 (by decide) (hts _ (fl_S_27)) (fun _ h9 => h9) rfl hin rfl (by decide +kernel) rfl rfl (Nat.le_of_ble_eq_true rfl) dd_S_init_49 (fun H locs hP hD hS => ?_)
  have hP : va_P D zCl [(h0, .inr (1, [.ref q7, .ref q15, .ref q23, .ref q31, .ref q39, .ref q47, .null, .null, .null, .null, .int 0])), (q7, .inl (cA 0, 60, .inl fun _ => 0)), (q15, .inl (cA 0, 60, .inl fun _ => 0)), (q23, .inl (cA 0, 60, .inl fun _ => 0)), (q31, .inl (cA 0, 60, .inl fun _ => 0)), (q39, .inl (cA 0, 60, .inl fun _ => 0)), (q47, .inl (cA 0, 60, .inl fun _ => 0))] H := hP
  have hD : va_D A [(h0, .inr (1, [.ref q7, .ref q15, .ref q23, .ref q31, .ref q39, .ref q47, .null, .null, .null, .null, .int 0])), (q7, .inl (cA 0, 60, .inl fun _ => 0)), (q15, .inl (cA 0, 60, .inl fun _ => 0)), (q23, .inl (cA 0, 60, .inl fun _ => 0)), (q31, .inl (cA 0, 60, .inl fun _ => 0)), (q39, .inl (cA 0, 60, .inl fun _ => 0)), (q47, .inl (cA 0, 60, .inl fun _ => 0))] := hD
  refine lv_aload_n hx hb dd_S_init_52 rfl (lv_at hl 0 rfl) ?_
  refine lv_bipush (v := 60) hx hb dd_S_init_53 (by decide) ?_
  refine va_newaZ (atype := .int) (N' := 60) (a0 := (60, .inl (fun _ => 0))) (ty := .int) (n := 60) (t0 := 0) (cA0 := cA 0) hx hb (hts _ ac_int) rfl (fun _ _ h => h) hK rfl hP hD hS hA (fun _ => rfl) (by decide) (by decide) (by decide) (Nat.le_of_ble_eq_true rfl) (Nat.le_of_ble_eq_true rfl) dd_S_init_55 (fun q55 H hP hD hS => ?_)
  have hP : va_P D zCl [(h0, .inr (1, [.ref q7, .ref q15, .ref q23, .ref q31, .ref q39, .ref q47, .null, .null, .null, .null, .int 0])), (q7, .inl (cA 0, 60, .inl fun _ => 0)), (q15, .inl (cA 0, 60, .inl fun _ => 0)), (q23, .inl (cA 0, 60, .inl fun _ => 0)), (q31, .inl (cA 0, 60, .inl fun _ => 0)), (q39, .inl (cA 0, 60, .inl fun _ => 0)), (q47, .inl (cA 0, 60, .inl fun _ => 0)), (q55, .inl (cA 0, 60, .inl fun _ => 0))] H := hP
  have hD : va_D A [(h0, .inr (1, [.ref q7, .ref q15, .ref q23, .ref q31, .ref q39, .ref q47, .null, .null, .null, .null, .int 0])), (q7, .inl (cA 0, 60, .inl fun _ => 0)), (q15, .inl (cA 0, 60, .inl fun _ => 0)), (q23, .inl (cA 0, 60, .inl fun _ => 0)), (q31, .inl (cA 0, 60, .inl fun _ => 0)), (q39, .inl (cA 0, 60, .inl fun _ => 0)), (q47, .inl (cA 0, 60, .inl fun _ => 0)), (q55, .inl (cA 0, 60, .inl fun _ => 0))] := hD
  refine W.widen (k := 7) (n := 420) (Nat.le_of_ble_eq_true rfl) (Nat.le_of_ble_eq_true rfl) ?_
  refine va_putF (D := D) (ci := 1) (v := .ref q55) (ty := .array .int) (C := rr_S) (T := ft_S) (N := 11) hx hb hts fin_S fy_S fty_S fnm_S hown hK hP hD hS 0 rfl rfl 6 (by decide) (hts _ (fl_S_30)) (fun _ h9 => h9) rfl hin rfl (by decide +kernel) rfl rfl (Nat.le_of_ble_eq_true rfl) dd_S_init_57 (fun H locs hP hD hS => ?_)
  have hP : va_P D zCl [(h0, .inr (1, [.ref q7, .ref q15, .ref q23, .ref q31, .ref q39, .ref q47, .ref q55, .null, .null, .null, .int 0])), (q7, .inl (cA 0, 60, .inl fun _ => 0)), (q15, .inl (cA 0, 60, .inl fun _ => 0)), (q23, .inl (cA 0, 60, .inl fun _ => 0)), (q31, .inl (cA 0, 60, .inl fun _ => 0)), (q39, .inl (cA 0, 60, .inl fun _ => 0)), (q47, .inl (cA 0, 60, .inl fun _ => 0)), (q55, .inl (cA 0, 60, .inl fun _ => 0))] H := hP
  have hD : va_D A [(h0, .inr (1, [.ref q7, .ref q15, .ref q23, .ref q31, .ref q39, .ref q47, .ref q55, .null, .null, .null, .int 0])), (q7, .inl (cA 0, 60, .inl fun _ => 0)), (q15, .inl (cA 0, 60, .inl fun _ => 0)), (q23, .inl (cA 0, 60, .inl fun _ => 0)), (q31, .inl (cA 0, 60, .inl fun _ => 0)), (q39, .inl (cA 0, 60, .inl fun _ => 0)), (q47, .inl (cA 0, 60, .inl fun _ => 0)), (q55, .inl (cA 0, 60, .inl fun _ => 0))] := hD
  refine lv_aload_n hx hb dd_S_init_60 rfl (lv_at hl 0 rfl) ?_
  refine lv_bipush (v := 60) hx hb dd_S_init_61 (by decide) ?_
  refine va_newaZ (atype := .int) (N' := 60) (a0 := (60, .inl (fun _ => 0))) (ty := .int) (n := 60) (t0 := 0) (cA0 := cA 0) hx hb (hts _ ac_int) rfl (fun _ _ h => h) hK rfl hP hD hS hA (fun _ => rfl) (by decide) (by decide) (by decide) (Nat.le_of_ble_eq_true rfl) (Nat.le_of_ble_eq_true rfl) dd_S_init_63 (fun q63 H hP hD hS => ?_)
  have hP : va_P D zCl [(h0, .inr (1, [.ref q7, .ref q15, .ref q23, .ref q31, .ref q39, .ref q47, .ref q55, .null, .null, .null, .int 0])), (q7, .inl (cA 0, 60, .inl fun _ => 0)), (q15, .inl (cA 0, 60, .inl fun _ => 0)), (q23, .inl (cA 0, 60, .inl fun _ => 0)), (q31, .inl (cA 0, 60, .inl fun _ => 0)), (q39, .inl (cA 0, 60, .inl fun _ => 0)), (q47, .inl (cA 0, 60, .inl fun _ => 0)), (q55, .inl (cA 0, 60, .inl fun _ => 0)), (q63, .inl (cA 0, 60, .inl fun _ => 0))] H := hP
  have hD : va_D A [(h0, .inr (1, [.ref q7, .ref q15, .ref q23, .ref q31, .ref q39, .ref q47, .ref q55, .null, .null, .null, .int 0])), (q7, .inl (cA 0, 60, .inl fun _ => 0)), (q15, .inl (cA 0, 60, .inl fun _ => 0)), (q23, .inl (cA 0, 60, .inl fun _ => 0)), (q31, .inl (cA 0, 60, .inl fun _ => 0)), (q39, .inl (cA 0, 60, .inl fun _ => 0)), (q47, .inl (cA 0, 60, .inl fun _ => 0)), (q55, .inl (cA 0, 60, .inl fun _ => 0)), (q63, .inl (cA 0, 60, .inl fun _ => 0))] := hD
  refine W.widen (k := 8) (n := 480) (Nat.le_of_ble_eq_true rfl) (Nat.le_of_ble_eq_true rfl) ?_
  refine va_putF (D := D) (ci := 1) (v := .ref q63) (ty := .array .int) (C := rr_S) (T := ft_S) (N := 11) hx hb hts fin_S fy_S fty_S fnm_S hown hK hP hD hS 0 rfl rfl 7 (by decide) (hts _ (fl_S_33)) (fun _ h9 => h9) rfl hin rfl (by decide +kernel) rfl rfl (Nat.le_of_ble_eq_true rfl) dd_S_init_65 (fun H locs hP hD hS => ?_)
  have hP : va_P D zCl [(h0, .inr (1, [.ref q7, .ref q15, .ref q23, .ref q31, .ref q39, .ref q47, .ref q55, .ref q63, .null, .null, .int 0])), (q7, .inl (cA 0, 60, .inl fun _ => 0)), (q15, .inl (cA 0, 60, .inl fun _ => 0)), (q23, .inl (cA 0, 60, .inl fun _ => 0)), (q31, .inl (cA 0, 60, .inl fun _ => 0)), (q39, .inl (cA 0, 60, .inl fun _ => 0)), (q47, .inl (cA 0, 60, .inl fun _ => 0)), (q55, .inl (cA 0, 60, .inl fun _ => 0)), (q63, .inl (cA 0, 60, .inl fun _ => 0))] H := hP
  have hD : va_D A [(h0, .inr (1, [.ref q7, .ref q15, .ref q23, .ref q31, .ref q39, .ref q47, .ref q55, .ref q63, .null, .null, .int 0])), (q7, .inl (cA 0, 60, .inl fun _ => 0)), (q15, .inl (cA 0, 60, .inl fun _ => 0)), (q23, .inl (cA 0, 60, .inl fun _ => 0)), (q31, .inl (cA 0, 60, .inl fun _ => 0)), (q39, .inl (cA 0, 60, .inl fun _ => 0)), (q47, .inl (cA 0, 60, .inl fun _ => 0)), (q55, .inl (cA 0, 60, .inl fun _ => 0)), (q63, .inl (cA 0, 60, .inl fun _ => 0))] := hD
  refine lv_aload_n hx hb dd_S_init_68 rfl (lv_at hl 0 rfl) ?_
  refine lv_bipush (v := 60) hx hb dd_S_init_69 (by decide) ?_
  refine va_newaZ (atype := .int) (N' := 60) (a0 := (60, .inl (fun _ => 0))) (ty := .int) (n := 60) (t0 := 0) (cA0 := cA 0) hx hb (hts _ ac_int) rfl (fun _ _ h => h) hK rfl hP hD hS hA (fun _ => rfl) (by decide) (by decide) (by decide) (Nat.le_of_ble_eq_true rfl) (Nat.le_of_ble_eq_true rfl) dd_S_init_71 (fun q71 H hP hD hS => ?_)
  have hP : va_P D zCl [(h0, .inr (1, [.ref q7, .ref q15, .ref q23, .ref q31, .ref q39, .ref q47, .ref q55, .ref q63, .null, .null, .int 0])), (q7, .inl (cA 0, 60, .inl fun _ => 0)), (q15, .inl (cA 0, 60, .inl fun _ => 0)), (q23, .inl (cA 0, 60, .inl fun _ => 0)), (q31, .inl (cA 0, 60, .inl fun _ => 0)), (q39, .inl (cA 0, 60, .inl fun _ => 0)), (q47, .inl (cA 0, 60, .inl fun _ => 0)), (q55, .inl (cA 0, 60, .inl fun _ => 0)), (q63, .inl (cA 0, 60, .inl fun _ => 0)), (q71, .inl (cA 0, 60, .inl fun _ => 0))] H := hP
  have hD : va_D A [(h0, .inr (1, [.ref q7, .ref q15, .ref q23, .ref q31, .ref q39, .ref q47, .ref q55, .ref q63, .null, .null, .int 0])), (q7, .inl (cA 0, 60, .inl fun _ => 0)), (q15, .inl (cA 0, 60, .inl fun _ => 0)), (q23, .inl (cA 0, 60, .inl fun _ => 0)), (q31, .inl (cA 0, 60, .inl fun _ => 0)), (q39, .inl (cA 0, 60, .inl fun _ => 0)), (q47, .inl (cA 0, 60, .inl fun _ => 0)), (q55, .inl (cA 0, 60, .inl fun _ => 0)), (q63, .inl (cA 0, 60, .inl fun _ => 0)), (q71, .inl (cA 0, 60, .inl fun _ => 0))] := hD
  refine W.widen (k := 9) (n := 540) (Nat.le_of_ble_eq_true rfl) (Nat.le_of_ble_eq_true rfl) ?_
  refine va_putF (D := D) (ci := 1) (v := .ref q71) (ty := .array .int) (C := rr_S) (T := ft_S) (N := 11) hx hb hts fin_S fy_S fty_S fnm_S hown hK hP hD hS 0 rfl rfl 8 (by decide) (hts _ (fl_S_36)) (fun _ h9 => h9) rfl hin rfl (by decide +kernel) rfl rfl (Nat.le_of_ble_eq_true rfl) dd_S_init_73 (fun H locs hP hD hS => ?_)
  have hP : va_P D zCl [(h0, .inr (1, [.ref q7, .ref q15, .ref q23, .ref q31, .ref q39, .ref q47, .ref q55, .ref q63, .ref q71, .null, .int 0])), (q7, .inl (cA 0, 60, .inl fun _ => 0)), (q15, .inl (cA 0, 60, .inl fun _ => 0)), (q23, .inl (cA 0, 60, .inl fun _ => 0)), (q31, .inl (cA 0, 60, .inl fun _ => 0)), (q39, .inl (cA 0, 60, .inl fun _ => 0)), (q47, .inl (cA 0, 60, .inl fun _ => 0)), (q55, .inl (cA 0, 60, .inl fun _ => 0)), (q63, .inl (cA 0, 60, .inl fun _ => 0)), (q71, .inl (cA 0, 60, .inl fun _ => 0))] H := hP
  have hD : va_D A [(h0, .inr (1, [.ref q7, .ref q15, .ref q23, .ref q31, .ref q39, .ref q47, .ref q55, .ref q63, .ref q71, .null, .int 0])), (q7, .inl (cA 0, 60, .inl fun _ => 0)), (q15, .inl (cA 0, 60, .inl fun _ => 0)), (q23, .inl (cA 0, 60, .inl fun _ => 0)), (q31, .inl (cA 0, 60, .inl fun _ => 0)), (q39, .inl (cA 0, 60, .inl fun _ => 0)), (q47, .inl (cA 0, 60, .inl fun _ => 0)), (q55, .inl (cA 0, 60, .inl fun _ => 0)), (q63, .inl (cA 0, 60, .inl fun _ => 0)), (q71, .inl (cA 0, 60, .inl fun _ => 0))] := hD
  refine lv_aload_n hx hb dd_S_init_76 rfl (lv_at hl 0 rfl) ?_
  refine lv_bipush (v := 60) hx hb dd_S_init_77 (by decide) ?_
  refine va_newaZ (atype := .boolean) (N' := 60) (a0 := (60, .inl (fun _ => 0))) (ty := .boolean) (n := 60) (t0 := 1) (cA0 := cA 1) hx hb (hts _ ac_boolean) rfl (fun _ _ h => h) hK rfl hP hD hS hA (fun _ => rfl) (by decide) (by decide) (by decide) (Nat.le_of_ble_eq_true rfl) (Nat.le_of_ble_eq_true rfl) dd_S_init_79 (fun q79 H hP hD hS => ?_)
  have hP : va_P D zCl [(h0, .inr (1, [.ref q7, .ref q15, .ref q23, .ref q31, .ref q39, .ref q47, .ref q55, .ref q63, .ref q71, .null, .int 0])), (q7, .inl (cA 0, 60, .inl fun _ => 0)), (q15, .inl (cA 0, 60, .inl fun _ => 0)), (q23, .inl (cA 0, 60, .inl fun _ => 0)), (q31, .inl (cA 0, 60, .inl fun _ => 0)), (q39, .inl (cA 0, 60, .inl fun _ => 0)), (q47, .inl (cA 0, 60, .inl fun _ => 0)), (q55, .inl (cA 0, 60, .inl fun _ => 0)), (q63, .inl (cA 0, 60, .inl fun _ => 0)), (q71, .inl (cA 0, 60, .inl fun _ => 0)), (q79, .inl (cA 1, 60, .inl fun _ => 0))] H := hP
  have hD : va_D A [(h0, .inr (1, [.ref q7, .ref q15, .ref q23, .ref q31, .ref q39, .ref q47, .ref q55, .ref q63, .ref q71, .null, .int 0])), (q7, .inl (cA 0, 60, .inl fun _ => 0)), (q15, .inl (cA 0, 60, .inl fun _ => 0)), (q23, .inl (cA 0, 60, .inl fun _ => 0)), (q31, .inl (cA 0, 60, .inl fun _ => 0)), (q39, .inl (cA 0, 60, .inl fun _ => 0)), (q47, .inl (cA 0, 60, .inl fun _ => 0)), (q55, .inl (cA 0, 60, .inl fun _ => 0)), (q63, .inl (cA 0, 60, .inl fun _ => 0)), (q71, .inl (cA 0, 60, .inl fun _ => 0)), (q79, .inl (cA 1, 60, .inl fun _ => 0))] := hD
  refine W.widen (k := 10) (n := 600) (Nat.le_of_ble_eq_true rfl) (Nat.le_of_ble_eq_true rfl) ?_
  refine va_putF (D := D) (ci := 1) (v := .ref q79) (ty := .array .boolean) (C := rr_S) (T := ft_S) (N := 11) hx hb hts fin_S fy_S fty_S fnm_S hown hK hP hD hS 0 rfl rfl 9 (by decide) (hts _ (fl_S_39)) (fun _ h9 => h9) rfl hin rfl (by decide +kernel) rfl rfl (Nat.le_of_ble_eq_true rfl) dd_S_init_81 (fun H locs hP hD hS => ?_)
  have hP : va_P D zCl [(h0, .inr (1, [.ref q7, .ref q15, .ref q23, .ref q31, .ref q39, .ref q47, .ref q55, .ref q63, .ref q71, .ref q79, .int 0])), (q7, .inl (cA 0, 60, .inl fun _ => 0)), (q15, .inl (cA 0, 60, .inl fun _ => 0)), (q23, .inl (cA 0, 60, .inl fun _ => 0)), (q31, .inl (cA 0, 60, .inl fun _ => 0)), (q39, .inl (cA 0, 60, .inl fun _ => 0)), (q47, .inl (cA 0, 60, .inl fun _ => 0)), (q55, .inl (cA 0, 60, .inl fun _ => 0)), (q63, .inl (cA 0, 60, .inl fun _ => 0)), (q71, .inl (cA 0, 60, .inl fun _ => 0)), (q79, .inl (cA 1, 60, .inl fun _ => 0))] H := hP
  have hD : va_D A [(h0, .inr (1, [.ref q7, .ref q15, .ref q23, .ref q31, .ref q39, .ref q47, .ref q55, .ref q63, .ref q71, .ref q79, .int 0])), (q7, .inl (cA 0, 60, .inl fun _ => 0)), (q15, .inl (cA 0, 60, .inl fun _ => 0)), (q23, .inl (cA 0, 60, .inl fun _ => 0)), (q31, .inl (cA 0, 60, .inl fun _ => 0)), (q39, .inl (cA 0, 60, .inl fun _ => 0)), (q47, .inl (cA 0, 60, .inl fun _ => 0)), (q55, .inl (cA 0, 60, .inl fun _ => 0)), (q63, .inl (cA 0, 60, .inl fun _ => 0)), (q71, .inl (cA 0, 60, .inl fun _ => 0)), (q79, .inl (cA 1, 60, .inl fun _ => 0))] := hD
  refine lv_aload_n hx hb dd_S_init_84 rfl (lv_at hl 0 rfl) ?_
  refine lv_iconst (v := 0) hx hb dd_S_init_85 (by decide) ?_
  refine va_put (D := D) (ci := 1) (v := .int 0) (ty := .int) (C := rr_S) (T := ft_S) (N := 11) hx hb hts fin_S fy_S fty_S fnm_S hown hK hP hD hS 0 rfl rfl 10 (by decide) (hts _ (fl_S_43)) (fun _ h9 => h9) rfl (by decide +kernel) rfl rfl (Nat.le_of_ble_eq_true rfl) dd_S_init_86 (fun H locs hP hD hS => ?_)
  have hP : va_P D zCl [(h0, .inr (1, [.ref q7, .ref q15, .ref q23, .ref q31, .ref q39, .ref q47, .ref q55, .ref q63, .ref q71, .ref q79, .int 0])), (q7, .inl (cA 0, 60, .inl fun _ => 0)), (q15, .inl (cA 0, 60, .inl fun _ => 0)), (q23, .inl (cA 0, 60, .inl fun _ => 0)), (q31, .inl (cA 0, 60, .inl fun _ => 0)), (q39, .inl (cA 0, 60, .inl fun _ => 0)), (q47, .inl (cA 0, 60, .inl fun _ => 0)), (q55, .inl (cA 0, 60, .inl fun _ => 0)), (q63, .inl (cA 0, 60, .inl fun _ => 0)), (q71, .inl (cA 0, 60, .inl fun _ => 0)), (q79, .inl (cA 1, 60, .inl fun _ => 0))] H := hP
  have hD : va_D A [(h0, .inr (1, [.ref q7, .ref q15, .ref q23, .ref q31, .ref q39, .ref q47, .ref q55, .ref q63, .ref q71, .ref q79, .int 0])), (q7, .inl (cA 0, 60, .inl fun _ => 0)), (q15, .inl (cA 0, 60, .inl fun _ => 0)), (q23, .inl (cA 0, 60, .inl fun _ => 0)), (q31, .inl (cA 0, 60, .inl fun _ => 0)), (q39, .inl (cA 0, 60, .inl fun _ => 0)), (q47, .inl (cA 0, 60, .inl fun _ => 0)), (q55, .inl (cA 0, 60, .inl fun _ => 0)), (q63, .inl (cA 0, 60, .inl fun _ => 0)), (q71, .inl (cA 0, 60, .inl fun _ => 0)), (q79, .inl (cA 1, 60, .inl fun _ => 0))] := hD
  exact W.vret hx hb hr (fun t ht hW => ⟨⟨(fun k => ([h0, q7, q15, q23, q31, q39, q47, q55, q63, q71, q79] : List Nat).getD k 0), rfl, rfl, by rw [ht]; exact hP, hD⟩, hS.F ht⟩) hS.2.2 dd_S_init_89
set_option maxHeartbeats 8000000 in
set_option maxRecDepth 100000 in
theorem ci_R (l : Launch) (D : va_G) (cA : Nat → ClassId) (h0 sz : Nat) : Met l yy_R_init (Cond.code yy_R_init cc_R_init 1 none :: zWS) ({ frames := 2, cells := 2, slots := 608, locals := 128 }) (va_Pc [.ref h0] (fun U => U.heap.size = sz ∧ va_P D zCl [(h0, .inr (3, [.null, .null]))] U.heap ∧ va_K D zCl [(cA 0, .int), (cA 1, .boolean), (cA 2, .long)] U ∧ zNw U ∧ va_D (fun _ => True) [(h0, .inr (3, [.null, .null]))])) (va_Qv (fun ad : Nat → Nat => ad 0 = h0) (fun ad t => va_P D zCl (zW ad cA (fun _ _ => 0) 0 zT_R) t.heap ∧ va_D (va_A [(h0, .inr (3, [.null, .null]))] sz) (zW ad cA (fun _ _ => 0) 0 zT_R)) (va_A [(h0, .inr (3, [.null, .null]))] sz)) 2 608 (va_A [(h0, .inr (3, [.null, .null]))] sz) := by
  refine Met.ofW (cc := cc_R_init) (maxL := 1) (ret := none) (by decide) rfl ?_
  intro p e s m args below meth c s₁ B hml hv
  obtain ⟨rfl, hsz, hP, hK, hN, hD0⟩ := hv
  have hx := B.exec
  have hb := B.bytes
  have hr := B.returns
  have hts0 := atoms_spec (ws := Cond.code yy_R_init cc_R_init 1 none :: zWS) B.pre
  have hts : ∀ w ∈ zWS, w.before _ s = true := fun w hw => hts0 w (List.mem_cons_of_mem _ hw)
  have hown : s.vm.findClass rr_R = some m.cls := findClass_of_methodNamed B.named
  have hlocks := B.notSynchronized
  have hin : meth.name = "<init>" := (name_of_methodNamed B.named B.method).1
  subst hsz
  have hD := hD0.self (sz := s.heap.size)
  generalize hAe : va_A [(h0, .inr (3, [.null, .null]))] s.heap.size = A at hD ⊢
  have hA : ∀ q : Nat, s.heap.size ≤ q → A q := fun q h => by rw [← hAe]; exact Or.inr h
  have hS : va_S A s.heap s.heap [] := va_S.rf
  have hl := lv_entry ([.ref h0]) (n := 1) (Nat.le_of_ble_eq_true rfl)
  rw [lg_entry_eq]
  generalize (lg_sl ([.ref h0]) ++ List.replicate (1 - (lg_sl ([.ref h0])).length) Slot.unset).toArray = ls at hl ⊢
  have hl : lv_has ls 1 [(0, .ref h0)] := hl
  refine lv_aload_n hx hb dd_R_init_0 rfl (lv_at hl 0 rfl) ?_
  refine W.objInit hx hb hown (hts _ oi_R_3) (hts _ oi_im) (hts _ oi_cd) rfl (by rw [hml]; exact hl.1) rfl dd_R_init_1 (Nat.le_of_ble_eq_true rfl) (Nat.le_of_ble_eq_true rfl) ?_
  refine W.eq (g2 := F0 m 4 ls []) rfl ?_
  refine lv_aload_n hx hb dd_R_init_4 rfl (lv_at hl 0 rfl) ?_
  refine lv_sipush (v := 300) hx hb dd_R_init_5 (by decide) ?_
  refine va_newaZ (atype := .int) (N' := 300) (a0 := (300, .inl (fun _ => 0))) (ty := .int) (n := 300) (t0 := 0) (cA0 := cA 0) hx hb (hts _ ac_int) rfl (fun _ _ h => h) hK rfl hP hD hS hA (fun _ => rfl) (by decide) (by decide) (by decide) (Nat.le_of_ble_eq_true rfl) (Nat.le_of_ble_eq_true rfl) dd_R_init_8 (fun q8 H hP hD hS => ?_)
  have hP : va_P D zCl [(h0, .inr (3, [.null, .null])), (q8, .inl (cA 0, 300, .inl fun _ => 0))] H := hP
  have hD : va_D A [(h0, .inr (3, [.null, .null])), (q8, .inl (cA 0, 300, .inl fun _ => 0))] := hD
  refine W.widen (k := 1) (n := 300) (Nat.le_of_ble_eq_true rfl) (Nat.le_of_ble_eq_true rfl) ?_
  refine va_putF (D := D) (ci := 3) (v := .ref q8) (ty := .array .int) (C := rr_R) (T := ft_R) (N := 2) hx hb hts fin_R fy_R fty_R fnm_R hown hK hP hD hS 0 rfl rfl 0 (by decide) (hts _ (fl_R_9)) (fun _ h9 => h9) rfl hin rfl (by decide +kernel) rfl rfl (Nat.le_of_ble_eq_true rfl) dd_R_init_10 (fun H locs hP hD hS => ?_)
  have hP : va_P D zCl [(h0, .inr (3, [.ref q8, .null])), (q8, .inl (cA 0, 300, .inl fun _ => 0))] H := hP
  have hD : va_D A [(h0, .inr (3, [.ref q8, .null])), (q8, .inl (cA 0, 300, .inl fun _ => 0))] := hD
  refine lv_aload_n hx hb dd_R_init_13 rfl (lv_at hl 0 rfl) ?_
  refine lv_sipush (v := 308) hx hb dd_R_init_14 (by decide) ?_
  refine va_newaZ (atype := .boolean) (N' := 308) (a0 := (308, .inl (fun _ => 0))) (ty := .boolean) (n := 308) (t0 := 1) (cA0 := cA 1) hx hb (hts _ ac_boolean) rfl (fun _ _ h => h) hK rfl hP hD hS hA (fun _ => rfl) (by decide) (by decide) (by decide) (Nat.le_of_ble_eq_true rfl) (Nat.le_of_ble_eq_true rfl) dd_R_init_17 (fun q17 H hP hD hS => ?_)
  have hP : va_P D zCl [(h0, .inr (3, [.ref q8, .null])), (q8, .inl (cA 0, 300, .inl fun _ => 0)), (q17, .inl (cA 1, 308, .inl fun _ => 0))] H := hP
  have hD : va_D A [(h0, .inr (3, [.ref q8, .null])), (q8, .inl (cA 0, 300, .inl fun _ => 0)), (q17, .inl (cA 1, 308, .inl fun _ => 0))] := hD
  refine W.widen (k := 2) (n := 608) (Nat.le_of_ble_eq_true rfl) (Nat.le_of_ble_eq_true rfl) ?_
  refine va_putF (D := D) (ci := 3) (v := .ref q17) (ty := .array .boolean) (C := rr_R) (T := ft_R) (N := 2) hx hb hts fin_R fy_R fty_R fnm_R hown hK hP hD hS 0 rfl rfl 1 (by decide) (hts _ (fl_R_15)) (fun _ h9 => h9) rfl hin rfl (by decide +kernel) rfl rfl (Nat.le_of_ble_eq_true rfl) dd_R_init_19 (fun H locs hP hD hS => ?_)
  have hP : va_P D zCl [(h0, .inr (3, [.ref q8, .ref q17])), (q8, .inl (cA 0, 300, .inl fun _ => 0)), (q17, .inl (cA 1, 308, .inl fun _ => 0))] H := hP
  have hD : va_D A [(h0, .inr (3, [.ref q8, .ref q17])), (q8, .inl (cA 0, 300, .inl fun _ => 0)), (q17, .inl (cA 1, 308, .inl fun _ => 0))] := hD
  exact W.vret hx hb hr (fun t ht hW => ⟨⟨(fun k => ([h0, q8, q17] : List Nat).getD k 0), rfl, rfl, by rw [ht]; exact hP, hD⟩, hS.F ht⟩) hS.2.2 dd_R_init_22
