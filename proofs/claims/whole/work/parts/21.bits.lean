/-! ===== Int32 by its bits: bt x i ===== -/
def bt (x : Int32) (i : Nat) : Bool := x.toBitVec.getLsbD i
theorem b_ext {x y : Int32} (h : ∀ i, i < 32 → bt x i = bt y i) : x = y := Int32.toBitVec_inj.mp (BitVec.eq_of_getLsbD_eq (fun i hi => h i hi))
theorem b_or (x y : Int32) (i : Nat) : bt (x ||| y) i = (bt x i || bt y i) := by unfold bt; rw [Int32.toBitVec_or, BitVec.getLsbD_or]
theorem b_and (x y : Int32) (i : Nat) : bt (x &&& y) i = (bt x i && bt y i) := by unfold bt; rw [Int32.toBitVec_and, BitVec.getLsbD_and]
theorem b_xor (x y : Int32) (i : Nat) : bt (x ^^^ y) i = (bt x i ^^ bt y i) := by unfold bt; rw [Int32.toBitVec_xor, BitVec.getLsbD_xor]
theorem b_big {x : Int32} {i : Nat} (h : 32 ≤ i) : bt x i = false := BitVec.getLsbD_of_ge _ _ h
theorem b_255 (i : Nat) : bt 255 i = decide (i < 8) := by
  rcases Nat.lt_or_ge i 32 with h | h
  · exact (by decide +kernel : ∀ i, i < 32 → bt 255 i = decide (i < 8)) i h
  · rw [b_big h, decide_eq_false (by omega)]
theorem b_65535 (i : Nat) : bt 65535 i = decide (i < 16) := by
  rcases Nat.lt_or_ge i 32 with h | h
  · exact (by decide +kernel : ∀ i, i < 32 → bt 65535 i = decide (i < 16)) i h
  · rw [b_big h, decide_eq_false (by omega)]
theorem b_m1 : ∀ i, i < 32 → bt (-1) i = true := by decide +kernel
theorem b_0 (i : Nat) : bt 0 i = false := BitVec.getLsbD_zero
theorem s_l : ∀ n, n < 32 → ((nI n &&& 31).toBitVec.smod 32).toNat = n := by decide +kernel
theorem s_u : ∀ n, n < 32 → (((nI n).toUInt32 &&& Int32.toUInt32 31).toBitVec % 32).toNat = n := by decide +kernel
theorem b_shl (n : Nat) (hn : n < 32) (x : Int32) {i : Nat} (hi : i < 32) : bt (x <<< (nI n &&& 31)) i = (decide (n ≤ i) && bt x (i - n)) := by
  unfold bt
  rw [Int32.toBitVec_shiftLeft]
  show (x.toBitVec <<< ((nI n &&& 31).toBitVec.smod 32).toNat).getLsbD i = _
  rw [s_l n hn, BitVec.getLsbD_shiftLeft]
  rcases Nat.lt_or_ge i n with h | h
  · simp [h, Nat.not_le.mpr h]
  · simp [hi, h, Nat.not_lt.mpr h]
theorem b_ushr (n : Nat) (hn : n < 32) (x : Int32) (i : Nat) : bt ((x.toUInt32 >>> ((nI n).toUInt32 &&& Int32.toUInt32 31)).toInt32) i = bt x (n + i) := by
  show (x.toUInt32 >>> ((nI n).toUInt32 &&& Int32.toUInt32 31)).toBitVec.getLsbD i = x.toUInt32.toBitVec.getLsbD (n + i)
  rw [UInt32.toBitVec_shiftRight]
  show (x.toUInt32.toBitVec >>> (((nI n).toUInt32 &&& Int32.toUInt32 31).toBitVec % 32).toNat).getLsbD i = _
  rw [s_u n hn, BitVec.getLsbD_ushiftRight]
theorem b_sshr (n : Nat) (hn : n < 32) (x : Int32) {i : Nat} (hi : i < 32) : bt (x >>> (nI n &&& 31)) i = if n + i < 32 then bt x (n + i) else bt x 31 := by
  unfold bt
  rw [Int32.toBitVec_shiftRight]
  show (x.toBitVec.sshiftRight ((nI n &&& 31).toBitVec.smod 32).toNat).getLsbD i = _
  rw [s_l n hn, BitVec.getLsbD_sshiftRight, BitVec.msb_eq_getLsbD_last]
  simp [hi]
theorem b_shl8 (x : Int32) {i : Nat} (hi : i < 32) : bt (x <<< ((8 : Int32) &&& 31)) i = (decide (8 ≤ i) && bt x (i - 8)) := b_shl 8 (by omega) x hi
theorem b_shl16 (x : Int32) {i : Nat} (hi : i < 32) : bt (x <<< ((16 : Int32) &&& 31)) i = (decide (16 ≤ i) && bt x (i - 16)) := b_shl 16 (by omega) x hi
theorem b_shl24 (x : Int32) {i : Nat} (hi : i < 32) : bt (x <<< ((24 : Int32) &&& 31)) i = (decide (24 ≤ i) && bt x (i - 24)) := b_shl 24 (by omega) x hi
theorem b_sshr8 (x : Int32) {i : Nat} (hi : i < 32) : bt (x >>> ((8 : Int32) &&& 31)) i = if 8 + i < 32 then bt x (8 + i) else bt x 31 := b_sshr 8 (by omega) x hi
/-! ===== nI under and, xor, >>>, one bit, 65535 ===== -/
/-! masks of one bit, and the others that the class uses -/
theorem bm_1 : ∀ i, i < 32 → bt 1 i = decide (i = 0) := by decide +kernel
theorem bm_2 : ∀ i, i < 32 → bt 2 i = decide (i = 1) := by decide +kernel
theorem bm_4 : ∀ i, i < 32 → bt 4 i = decide (i = 2) := by decide +kernel
theorem bm_8 : ∀ i, i < 32 → bt 8 i = decide (i = 3) := by decide +kernel
theorem bm_16 : ∀ i, i < 32 → bt 16 i = decide (i = 4) := by decide +kernel
theorem bm_32 : ∀ i, i < 32 → bt 32 i = decide (i = 5) := by decide +kernel
theorem bm_64 : ∀ i, i < 32 → bt 64 i = decide (i = 6) := by decide +kernel
theorem bm_128 : ∀ i, i < 32 → bt 128 i = decide (i = 7) := by decide +kernel
theorem bm_256 : ∀ i, i < 32 → bt 256 i = decide (i = 8) := by decide +kernel
theorem bm_512 : ∀ i, i < 32 → bt 512 i = decide (i = 9) := by decide +kernel
theorem bm_1024 : ∀ i, i < 32 → bt 1024 i = decide (i = 10) := by decide +kernel
theorem bm_63 : ∀ i, i < 32 → bt 63 i = decide (i < 6) := by decide +kernel
theorem bm_65 : ∀ i, i < 32 → bt 65 i = (decide (i = 0) || decide (i = 6)) := by decide +kernel
theorem bm_127 : ∀ i, i < 32 → bt 127 i = decide (i < 7) := by decide +kernel
theorem bm_1920 : ∀ i, i < 32 → bt 1920 i = decide (7 ≤ i ∧ i < 11) := by decide +kernel
theorem bm_n129 : ∀ i, i < 32 → bt (-129) i = !decide (i = 7) := by decide +kernel
theorem bm_n257 : ∀ i, i < 32 → bt (-257) i = !decide (i = 8) := by decide +kernel
theorem bm_n2 : ∀ i, i < 32 → bt (-2) i = !decide (i = 0) := by decide +kernel
theorem bm_has {w m : Int32} (k : Nat) (hk : k < 32) (hm : ∀ i, i < 32 → bt m i = decide (i = k)) : (w &&& m = 0) ↔ bt w k = false := by
  constructor
  · intro h
    have h1 : bt (w &&& m) k = bt 0 k := by rw [h]
    rw [b_and, hm k hk, b_0] at h1
    simpa using h1
  · intro h
    refine b_ext fun i hi => ?_
    rw [b_and, hm i hi, b_0]
    by_cases e : i = k
    · subst e; simp [h]
    · simp [e]
/-- the four wires that come to a copy -/
def zcB (v : Int32) (go re su ki : Bool) : Prop := ∀ i, i < 32 → bt v i = if i = 7 then go else if i = 8 then re else if i = 9 then su else if i = 10 then ki else false
theorem zcB_0 (w : Int32) : zcB (w &&& 1920) (bt w 7) (bt w 8) (bt w 9) (bt w 10) := by
  intro i hi
  rw [b_and, bm_1920 i hi]
  by_cases h7 : i = 7
  · subst h7; simp
  · by_cases h8 : i = 8
    · subst h8; simp
    · by_cases h9 : i = 9
      · subst h9; simp
      · by_cases h10 : i = 10
        · subst h10; simp
        · simp [h7, h8, h9, h10]; omega
theorem zcB_go {v : Int32} {go re su ki : Bool} (h : zcB v go re su ki) : zcB (v ||| 128) true re su ki := by
  intro i hi
  rw [b_or, bm_128 i hi, h i hi]
  by_cases h7 : i = 7
  · subst h7; simp
  · simp [h7]
theorem zcB_ngo {v : Int32} {go re su ki : Bool} (h : zcB v go re su ki) : zcB (v &&& (-129)) false re su ki := by
  intro i hi
  rw [b_and, bm_n129 i hi, h i hi]
  by_cases h7 : i = 7
  · subst h7; simp
  · simp [h7]
theorem zcB_nre {v : Int32} {go re su ki : Bool} (h : zcB v go re su ki) : zcB (v &&& (-257)) go false su ki := by
  intro i hi
  rw [b_and, bm_n257 i hi, h i hi]
  by_cases h7 : i = 8
  · subst h7; simp
  · simp [h7]
theorem zcB_su {v : Int32} {go re su ki : Bool} (h : zcB v go re su ki) : zcB (v ||| 512) go re true ki := by
  intro i hi
  rw [b_or, bm_512 i hi, h i hi]
  by_cases h7 : i = 9
  · subst h7; simp
  · simp [h7]
theorem zcB_ki {v : Int32} {go re su ki : Bool} (h : zcB v go re su ki) : zcB (v ||| 1024) go re su true := by
  intro i hi
  rw [b_or, bm_1024 i hi, h i hi]
  by_cases h7 : i = 10
  · subst h7; simp
  · simp [h7]
theorem zcB_128 : zcB 128 true false false false := by
  intro i hi
  rw [bm_128 i hi]
  by_cases h7 : i = 7 <;> simp [h7]
theorem zcB_256 : zcB 256 false true false false := by
  intro i hi
  rw [bm_256 i hi]
  by_cases h7 : i = 8
  · subst h7; simp
  · simp [h7]
theorem zcB_eq {v : Int32} {go re su ki go' re' su' ki' : Bool} (h : zcB v go re su ki) (h1 : go' = go) (h2 : re' = re) (h3 : su' = su) (h4 : ki' = ki) : zcB v go' re' su' ki' := by subst h1 h2 h3 h4; exact h
/-- the seven wires that a copy gives -/
def zgB (v : Int32) (k : Nat → Bool) (se : Bool) : Prop := ∀ i, i < 32 → bt v i = if i < 6 then k i else if i = 6 then se else false
theorem zgB_eq {v : Int32} {k k' : Nat → Bool} {s s' : Bool} (h : zgB v k s) (h1 : ∀ i, i < 6 → k' i = k i) (h2 : s' = s) : zgB v k' s' := by
  subst h2
  intro i hi
  rw [h i hi]
  by_cases h6 : i < 6
  · simp only [if_pos h6, h1 i h6]
  · simp only [if_neg h6]
theorem zgB_0 (w : Int32) : zgB (w &&& 127) (bt w) (bt w 6) := by
  intro i hi
  rw [b_and, bm_127 i hi]
  by_cases h6 : i < 6
  · simp [h6, show i < 7 by omega]
  · by_cases h7 : i = 6
    · subst h7; simp
    · simp [h6, h7]; omega
theorem zgB_z : zgB 0 (fun _ => false) false := by
  intro i hi
  rw [b_0]; split <;> simp
theorem zgB_or {v w : Int32} {k k' : Nat → Bool} {s s' : Bool} (h : zgB v k s) (h' : zgB w k' s') : zgB (v ||| w) (fun i => k i || k' i) (s || s') := by
  intro i hi
  rw [b_or, h i hi, h' i hi]
  split
  · rfl
  · split <;> rfl
theorem zgB_n0 {v : Int32} {k : Nat → Bool} {s : Bool} (h : zgB v k s) : zgB (v &&& (-2)) (fun i => !decide (i = 0) && k i) s := by
  intro i hi
  rw [b_and, bm_n2 i hi, h i hi]
  by_cases h0 : i = 0
  · subst h0; simp
  · simp [h0]
theorem zgB_k1 {v : Int32} {k : Nat → Bool} {s : Bool} (h : zgB v k s) : zgB (v ||| 2) (fun i => decide (i = 1) || k i) s := by
  intro i hi
  rw [b_or, bm_2 i hi, h i hi]
  by_cases h0 : i = 1
  · subst h0; simp
  · simp [h0]

