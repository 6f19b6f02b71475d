/-! a call on both sides -/
section PAI
theorem yDec_u {F : yF} {x a b c : Int32} {k z p q k' z' p' q' : Nat} (hn : F.n ≤ 60) (h : yDec F x a b c k z p q) (h' : yDec F x a b c k' z' p' q') : k' = k ∧ z' = z ∧ p' = p ∧ q' = q := by
  obtain ⟨a1, a2, a3, a4, ⟨a5, a6⟩, a7, a8, a9, a10⟩ := h
  obtain ⟨b1, b2, b3, b4, ⟨b5, b6⟩, b7, b8, b9, b10⟩ := h'
  have e : k' = k := nI_inj (by omega) (by omega) (b1.symm.trans a1)
  subst e
  refine ⟨rfl, ?_, ?_, ?_⟩
  · by_cases w : yNb k'
    · exact nI_inj b6 a6 ((b4 w).symm.trans (a4 w))
    · rw [b5 w, a5 w]
  · by_cases w : 3 ≤ k' ∧ k' ≤ 9
    · have h1 := a7 w; have h2 := b7 w
      exact nI_inj (by omega) (by omega) (h2.2.symm.trans h1.2)
    · rw [b8 w, a8 w]
  · by_cases w : k' = 3 ∨ k' = 4 ∨ k' = 6
    · have h1 := a9 w; have h2 := b9 w
      exact nI_inj (by omega) (by omega) (h2.2.symm.trans h1.2)
    · rw [b10 w, a10 w]
theorem nin {n p : Nat} {x : Int32} (hn : n ≤ 60) (hp : p < n) (hx : x = nI p) : ¬ (x < 0 ∨ nI n ≤ x) := by
  subst hx
  rintro (h | h)
  · exact nI_pos (by omega) h
  · exact nI_ge hp (by omega) h
/-- how the law's two calls must end -/
def pEnd (N : Nat) (k : Int32) (w : Option Value) (G : zM) : Prop := ∃ b : Int32, w = some (.int b) ∧ rRel N G ∧ G 27 0 = k ∧ (k = 0 → G 46 0 = b)
variable {l : Launch} {d N : Nat} {g : zM}
theorem pc_can {x : Int32} (hl9 : l.stackTraces = false) (h : rRel N g) : qh_L_can l (d + 30) [.ref 0, .int x, .ref 46] g (fun v G => ∃ k, v = some (.int k) ∧ qs_M_can l (d + 30) [.ref 27, .int x] G (pEnd (N + 1) k)) := by
  obtain ⟨F, hw, hF, hM, h4, h5, h6⟩ := id h
  have hn := hw.1
  refine sp_L_can hl9 hF hw (fun e => ⟨1, rfl, ?_⟩) (fun p hp e => ⟨0, rfl, ?_⟩)
  · exact sp_M_can hM hw (fun _ => ⟨0, rfl, h.fr (rFr.thr g 1) (by omega), zU_at _ _ _ _, fun q => absurd q (by decide)⟩) (fun p hp e2 => absurd e (nin hn hp e2))
  · have hM2 : zFre (zU g 46 0 (nI (F.cd p))) F := hM.fr (fun k _ _ => zU_ne _ _ _ _ (by omega)) (by rw [zU_ne _ _ _ _ (by omega)])
    refine sp_M_can hM2 hw (fun e2 => absurd e2 (nin hn hp e)) (fun p' hp' e' => ?_)
    have e3 : p' = p := nI_inj (by omega) (by omega) (e'.symm.trans e)
    subst e3
    exact ⟨_, rfl, h.fr ((rFr.out g _).tr (rFr.thr _ 0)) (by omega), zU_at _ _ _ _, fun _ => by rw [zU_ne _ _ _ _ (by omega), zU_at]⟩
theorem pc_make {x a b c : Int32} (hl9 : l.stackTraces = false) (h : rRel N g) : qh_L_make l (d + 30) [.ref 0, .int x, .int a, .int b, .int c, .ref 46] g (fun v G => ∃ k, v = some (.int k) ∧ qs_M_make l (d + 30) [.ref 27, .int x, .int a, .int b, .int c] G (pEnd (N + 1) k)) := by
  obtain ⟨F, hw, hF, hM, h4, h5, h6⟩ := id h
  have hn := hw.1
  refine sp_L_make hl9 hF hw (fun e => ⟨1, rfl, ?_⟩) (fun kk z p q e1 e2 => ⟨2, rfl, ?_⟩) (fun kk z p q e1 e2 e3 G a1 a2 a3 => ⟨0, rfl, ?_⟩)
  · exact sp_M_make hM hw (fun _ => ⟨0, rfl, h.fr (rFr.thr g 1) (by omega), zU_at _ _ _ _, fun q => absurd q (by decide)⟩) (fun kk z p q w _ => absurd ⟨_, _, _, _, w⟩ e) (fun kk z p q w _ _ _ _ _ _ _ => absurd ⟨_, _, _, _, w⟩ e)
  · refine sp_M_make hM hw (fun w => absurd ⟨_, _, _, _, e1⟩ w) (fun _ _ _ _ _ _ => ⟨0, rfl, h.fr (rFr.thr g 2) (by omega), zU_at _ _ _ _, fun q => absurd q (by decide)⟩) (fun kk' z' p' q' w1 w2 w3 G _ _ _ _ => ?_)
    obtain ⟨rfl, rfl, rfl, rfl⟩ := yDec_u hn e1 w1
    have := w3.2.2.2.2.2.2.2.2
    rcases e2 with e2 | e2 <;> omega
  · have hM2 : zFre (zU G 46 0 (nI F.n)) F := hM.fr (fun k _ _ => by rw [zU_ne _ _ _ _ (by omega), a2 k (by omega)]) (by rw [zU_ne _ _ _ _ (by omega), a2 27 (by omega)])
    refine sp_M_make hM2 hw (fun w => absurd ⟨_, _, _, _, e1⟩ w) (fun kk' z' p' q' w1 w2 => ?_) (fun kk' z' p' q' w1 w2 w3 G2 c1 c2 c3 c4 => ?_)
    · obtain ⟨rfl, rfl, rfl, rfl⟩ := yDec_u hn e1 w1
      have := e3.2.2.2.2.2.2.2.2
      rcases w2 with w2 | w2 <;> omega
    · obtain ⟨rfl, rfl, rfl, rfl⟩ := yDec_u hn e1 w1
      refine ⟨_, rfl, ?_, c4, fun _ => by rw [c2 46 (by omega), zU_at]⟩
      have k1 : ∀ x, (x < 27 ∨ 33 < x) → x ≠ 46 → G2 x = G x := fun x hx h9 => by rw [c2 x hx, zU_ne _ _ _ _ h9]
      exact rRel_add (g := g) (N := N) (by omega) (yFw_add hw e2 e3) h4 h5 h6 (a1.fs (fun k h1 h2 => k1 k (by omega) (by omega)) (by rw [k1 1 (by omega) (by omega)])) c1 (fun x hx => by rw [k1 x (by omega) (by omega), a2 x (by omega)]) (fun j h1 h2 => by rw [c3 j h1 h2, zU_ne _ _ _ _ (by omega), a2 27 (by omega)])
theorem pc_build {x : Int32} (hl9 : l.stackTraces = false) (h : rRel N g) : qh_L_build l (d + 30) [.ref 0, .int x, .ref 46] g (fun v G => ∃ k, v = some (.int k) ∧ qs_M_build l (d + 30) [.ref 27, .int x] G (pEnd (N + 1) k)) := by
  obtain ⟨F, hw, hF, hM, h4, h5, h6⟩ := id h
  have hn := hw.1
  have same : ∀ i i', i < F.n → i' < F.n → x = nI i → x = nI i' → i' = i := fun i i' h1 h2 e1 e2 => nI_inj (by omega) (by omega) (e2.symm.trans e1)
  refine sp_L_build hl9 hF hw (fun e => ⟨1, rfl, ?_⟩) (fun i hi e q => ⟨2, rfl, ?_⟩) (fun i hi e q G a1 a2 a3 a4 a5 a6 a7 => ⟨0, rfl, ?_⟩)
  · exact sp_M_build hM hw (fun _ => ⟨0, rfl, h.fr (rFr.thr g 1) (by omega), zU_at _ _ _ _, fun q => absurd q (by decide)⟩) (fun i hi e2 _ _ _ _ _ => absurd e (nin hn hi e2)) (fun i hi e2 _ _ _ _ _ _ _ _ _ _ _ => absurd e (nin hn hi e2))
  · refine sp_M_build hM hw (fun e2 => absurd e2 (nin hn hi e)) (fun i' hi' e' q' G b1 b2 b3 => ⟨0, rfl, h.fr ⟨fun k hk => b1 k (by omega) (by omega), fun j j0 j8 j10 j11 _ => b2 j j0 j8 j10 j11⟩ (by omega), b3, fun q => absurd q (by decide)⟩) (fun i' hi' e' q' _ _ _ _ _ _ _ _ _ _ => ?_)
    have e3 := same i i' hi hi' e e'
    subst e3
    exact absurd q' q
  · have hM2 : zFre (zU G 46 0 (nI (yTop F i).r)) F := hM.fr (fun k _ _ => by rw [zU_ne _ _ _ _ (by omega), a1 k (by omega)]) (by rw [zU_ne _ _ _ _ (by omega), a1 27 (by omega)])
    refine sp_M_build hM2 hw (fun e2 => absurd e2 (nin hn hi e)) (fun i' hi' e' q' _ _ _ _ => ?_) (fun i' hi' e' q' G2 b1 b2 b3 b4 b5 b6 b7 b8 b9 => ?_)
    · have e3 := same i i' hi hi' e e'
      subst e3
      exact absurd q q'
    · have e3 := same i i' hi hi' e e'
      subst e3
      have k1 : ∀ k, k ≠ 27 → k ≠ 34 → k ≠ 42 → (k < 35 ∨ 41 < k) → k ≠ 46 → G2 k = G k := fun k h1 h2 h3 h4 h5 => by rw [b1 k h1 h2 h3 h4, zU_ne _ _ _ _ h5]
      have k12 := k1 12 (by omega) (by omega) (by omega) (by omega) (by omega)
      have kj : ∀ j, (j = 1 ∨ j = 31) → G2 27 j = g 27 j := fun j hj => by rw [b2 j (by omega), zU_ne _ _ _ _ (by omega), a1 27 (by omega)]
      obtain ⟨q1, q2, q3, q4⟩ := id q
      refine ⟨_, rfl, ⟨F, hw, hF.fs (fun k _ _ => by rw [k1 k (by omega) (by omega) (by omega) (by omega) (by omega), a1 k (by omega)]) (by rw [k1 1 (by omega) (by omega) (by omega) (by omega) (by omega), a1 1 (by omega)]), hM.fr (fun k _ _ => by rw [k1 k (by omega) (by omega) (by omega) (by omega) (by omega), a1 k (by omega)]) (kj 1 (by omega)), ?_, ?_, Or.inr ⟨yTop F i', 0, by omega, (yTop_ok hw hi (by omega) (by omega)).1, a3.fr (fun k _ _ => k1 k (by omega) (by omega) (by omega) (by omega) (by omega)) (fun j _ _ => by rw [k12]), b4, by rw [b5]; decide, by rw [k12]; exact a4, b7, ?_, fun j hj => ?_⟩⟩, b3, fun _ => by rw [b1 46 (by omega) (by omega) (by omega) (by omega), zU_at]⟩
      · rw [k1 0 (by omega) (by omega) (by omega) (by omega) (by omega), a1 0 (by omega), kj 31 (by omega)]; exact h4
      · rw [k12, a5, b8]
      · rw [k12, a6, b6, if_pos rfl]
      · have h60 : (yTop F i').r ≤ 60 := (yTop_ok hw hi (by omega) (by omega)).1.2.2.1
        rw [k1 26 (by omega) (by omega) (by omega) (by omega) (by omega), a7 j hj, b9 j (by omega)]
theorem pc_count {x : Int32} (hl9 : l.stackTraces = false) (h : rRel N g) : qh_L_count l (d + 30) [.ref 0, .int x, .ref 46] g (fun v G => ∃ k, v = some (.int k) ∧ qs_M_count l (d + 30) [.ref 27, .int x] G (pEnd (N + 1) k)) := by
  obtain ⟨F, hw, hF, hM, h4, h5, h6⟩ := id h
  refine sp_L_count hl9 (fun e => ⟨1, rfl, ?_⟩) (fun e => ⟨0, rfl, ?_⟩)
  · exact sp_M_count (fun _ => ⟨0, rfl, h.fr (rFr.thr g 1) (by omega), zU_at _ _ _ _, fun q => absurd q (by decide)⟩) (fun e2 => absurd e e2)
  · refine sp_M_count (fun e2 => absurd e2 e) (fun _ => ⟨_, rfl, h.fr ((rFr.out g _).tr (rFr.thr _ 0)) (by omega), zU_at _ _ _ _, fun _ => ?_⟩)
    rw [zU_ne _ 27 0 _ (x := 46) (by omega), zU_at, zU_ne _ 46 0 _ (x := 27) (by omega)]
    have e10 : g 12 10 = g 27 13 ∧ g 12 14 = g 27 29 := by
      rcases h6 with ⟨a1, a2, a3, a4, a5, a6, a7, a8⟩ | ⟨S, t, ht, a1, a2, a3, a4, a5, a6, a7, a8⟩
      · exact ⟨by rw [a1, a6], by rw [a3, a8]⟩
      · exact ⟨by rw [a2.1, a3.1], by rw [a5, a6]⟩
    rw [hF.1, hM.1, e10.1, e10.2, h4]
theorem pc_reset (hl9 : l.stackTraces = false) (h : rRel N g) : qh_L_reset l (d + 30) [.ref 0, .ref 46] g (fun v G => ∃ k, v = some (.int k) ∧ qs_M_reset l (d + 30) [.ref 27] G (pEnd (N + 1) k)) := by
  obtain ⟨F, hw, hF, hM, h4, h5, h6⟩ := id h
  rcases h6 with ⟨a1, a2, a3, a4, a5, a6, a7, a8⟩ | ⟨S, t, ht, a1, a2, a3, a4, a5, a6, a7, a8⟩
  · exact sp_L_reset (n := 0) hl9 a2 (by omega) (fun e => ⟨1, rfl, sp_M_reset (fun _ => ⟨0, rfl, h.fr (rFr.thr g 1) (by omega), zU_at _ _ _ _, fun q => absurd q (by decide)⟩) (fun g1 e _ _ _ _ _ _ => absurd a5 e)⟩) (fun e => absurd a1 e)
  · have c1 : ¬ g 12 10 = 0 := by rw [a2.1]; exact nI_ne0 (by have := a1.1; omega) (by have := a1.2.1; omega)
    refine sp_L_reset (n := S.r) hl9 a2.2.1 a1.2.2.1 (fun e => absurd e c1) (fun e g1 b1 b2 b3 b4 b5 => ⟨0, rfl, ?_⟩)
    have z27 : zU g1 46 0 (g 12 14) 27 = g 27 := by rw [zU_ne _ _ _ _ (by omega), b1 27 (by omega) (by omega)]
    refine sp_M_reset (fun e => absurd (by rw [z27] at e; exact e) a4) (fun g2 _ f1 f2 f3 f4 f5 f6 => ?_)
    have k1 : ∀ k, k ≠ 27 → k ≠ 42 → k ≠ 46 → g2 k = g1 k := fun k h1 h2 h3 => by rw [f1 k h1 h2, zU_ne _ _ _ _ h3]
    have k2 : ∀ k, k ≠ 27 → k ≠ 42 → k ≠ 46 → k ≠ 12 → k ≠ 26 → g2 k = g k := fun k h1 h2 h3 h4 h5 => by rw [k1 k h1 h2 h3, b1 k h4 h5]
    have kj : ∀ j, j ≠ 0 → j ≠ 28 → j ≠ 29 → g2 27 j = g 27 j := fun j h1 h2 h3 => by rw [f2 j h1 h2 h3, z27]
    have k12 := k1 12 (by omega) (by omega) (by omega)
    refine ⟨_, rfl, ⟨F, hw, hF.fs (fun k _ _ => k2 k (by omega) (by omega) (by omega) (by omega) (by omega)) (by rw [k2 1 (by omega) (by omega) (by omega) (by omega) (by omega)]), hM.fr (fun k _ _ => k2 k (by omega) (by omega) (by omega) (by omega) (by omega)) (kj 1 (by omega) (by omega) (by omega)), ?_, ?_, Or.inr ⟨S, 0, by omega, a1, a2.fr (fun k _ _ => k2 k (by omega) (by omega) (by omega) (by omega) (by omega)) (fun j _ _ => by rw [k12]; exact b2 j (by omega) (by omega)), a3.fr (fun k _ _ => k2 k (by omega) (by omega) (by omega) (by omega) (by omega)) (fun j hj => kj j (by omega) (by omega) (by omega)), by rw [kj 12 (by omega) (by omega) (by omega)]; exact a4, by rw [k12]; exact b3, f5, by rw [k12, b4, f4, if_pos rfl], fun j hj => ?_⟩⟩, f3, fun _ => ?_⟩
    · rw [k2 0 (by omega) (by omega) (by omega) (by omega) (by omega), kj 31 (by omega) (by omega) (by omega)]; exact h4
    · rw [k12, b2 15 (by omega) (by omega), kj 30 (by omega) (by omega) (by omega)]; exact h5
    · have h60 := a1.2.2.1
      rw [k1 26 (by omega) (by omega) (by omega), b5 j hj, f6 j (by omega)]
    · rw [f1 46 (by omega) (by omega), zU_at, z27, a5, a6]
theorem pc_register {x : Int32} (hl9 : l.stackTraces = false) (h : rRel N g) : qh_L_register l (d + 30) [.ref 0, .int x, .ref 46] g (fun v G => ∃ k, v = some (.int k) ∧ qs_M_register l (d + 30) [.ref 27, .int x] G (fun w G2 => pEnd (N + 1) k w G2 ∧ (w = some (.int 0) ∨ w = some (.int 1)))) := by
  obtain ⟨F, hw, hF, hM, h4, h5, h6⟩ := id h
  rcases h6 with ⟨a1, a2, a3, a4, a5, a6, a7, a8⟩ | ⟨S, t, ht, a1, a2, a3, a4, a5, a6, a7, a8⟩
  · exact sp_L_register (n := 0) hl9 a2 (by omega) (fun e => ⟨1, rfl, sp_M_register (n := 0) a7 (by omega) (fun _ => ⟨⟨0, rfl, h.fr (rFr.thr g 1) (by omega), zU_at _ _ _ _, fun q => absurd q (by decide)⟩, Or.inl rfl⟩) (fun p hp => absurd hp (by omega))⟩) (fun p hp => absurd hp (by omega))
  · have h60 := a1.2.2.1
    refine sp_L_register (n := S.r) hl9 a2.2.1 h60 (fun e => ⟨1, rfl, ?_⟩) (fun p hp e => ⟨0, rfl, ?_⟩)
    · exact sp_M_register (n := S.r) a3.2.1 h60 (fun _ => ⟨⟨0, rfl, h.fr (rFr.thr g 1) (by omega), zU_at _ _ _ _, fun q => absurd q (by decide)⟩, Or.inl rfl⟩) (fun p hp e2 _ => absurd e (nin h60 hp e2))
    · have z27 : zU g 46 0 (zb (g 26 p)) 27 = g 27 := zU_ne _ _ _ _ (by omega)
      refine sp_M_register (n := S.r) (by rw [z27]; exact a3.2.1) h60 (fun w => ?_) (fun p' hp' e' _ => ?_)
      · rw [z27] at w
        rcases w with w | w
        · exact absurd w a4
        · exact absurd w (nin h60 hp e)
      · have e3 : p' = p := nI_inj (by omega) (by omega) (e'.symm.trans e)
        subst e3
        have ev : (if zU g 46 0 (zb (g 26 p')) 42 p' = 0 then (0 : Int32) else 1) = zb (g 26 p') := by
          rw [zU_ne _ _ _ _ (by omega)]
          unfold zb
          by_cases w : g 26 p' = 0
          · rw [if_pos w, if_pos ((a8 p' hp).mp w)]
          · rw [if_neg w, if_neg (fun q => w ((a8 p' hp).mpr q))]
        rw [ev]
        refine ⟨⟨_, rfl, h.fr ((rFr.out g _).tr (rFr.thr _ 0)) (by omega), zU_at _ _ _ _, fun _ => by rw [zU_ne _ _ _ _ (by omega), zU_at]⟩, ?_⟩
        rcases zb_01 (g 26 p') with w | w <;> rw [w]
        · exact Or.inl rfl
        · exact Or.inr rfl
end PAI
