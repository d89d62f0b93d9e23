/-! words as longs, and the padded bytes of a message: typed by hand (wip/tools/bits.lean.txt) -/
/-- a word, told as a long -/
def zx (x : Int32) : Int64 := Int64.ofBitVec (x.toBitVec.setWidth 64)
theorem zx_bv (x : Int32) : (zx x).toBitVec = x.toBitVec.setWidth 64 := rfl
theorem wd_bit (i : Nat) (hi : i < 64) : (4294967295#64).getLsbD i = decide (i < 32) := by
  have : (4294967295#64) = BitVec.ofNat 64 (2 ^ 32 - 1) := rfl
  rw [this, BitVec.getLsbD_ofNat, Nat.testBit_two_pow_sub_one]
  simp [hi]
theorem wd_m1 (i : Nat) (hi : i < 64) : (18446744073709551615#64).getLsbD i = true := by
  have : (18446744073709551615#64) = BitVec.ofNat 64 (2 ^ 64 - 1) := rfl
  rw [this, BitVec.getLsbD_ofNat, Nat.testBit_two_pow_sub_one]
  simp [hi]
theorem wd_m32 (i : Nat) (hi : i < 32) : (4294967295#32).getLsbD i = true := by
  have : (4294967295#32) = BitVec.ofNat 32 (2 ^ 32 - 1) := rfl
  rw [this, BitVec.getLsbD_ofNat, Nat.testBit_two_pow_sub_one]
  simp [hi]
theorem bv_mask (v : BitVec 64) : v &&& 4294967295#64 = (v.setWidth 32).setWidth 64 := by
  apply BitVec.eq_of_getLsbD_eq
  intro i hi
  rw [BitVec.getLsbD_and, wd_bit i hi, BitVec.getLsbD_setWidth, BitVec.getLsbD_setWidth]
  by_cases h : i < 32 <;> simp [h, hi]
theorem zx_mask (v : Int64) : v &&& zL 4294967295 = zx v.toInt32 := by
  apply Int64.toBitVec_inj.mp
  rw [Int64.toBitVec_and, zx_bv, l_i]
  exact bv_mask v.toBitVec
theorem zx_i (x : Int32) : (zx x).toInt32 = x := by
  apply Int32.toBitVec_inj.mp
  rw [l_i, zx_bv]
  apply BitVec.eq_of_getLsbD_eq
  intro i hi
  rw [BitVec.getLsbD_setWidth, BitVec.getLsbD_setWidth]
  simp [hi]; omega
theorem zx_0 {v : Int64} (h : v &&& zL 4294967295 = v) : v = zx v.toInt32 := by rw [← zx_mask, h]
theorem bv_lo (v : BitVec 64) (h : ∀ i, i < 64 → 32 ≤ i → v.getLsbD i = false) : v &&& 4294967295#64 = v := by
  apply BitVec.eq_of_getLsbD_eq
  intro i hi
  rw [BitVec.getLsbD_and, wd_bit i hi]
  by_cases h1 : i < 32
  · simp [h1]
  · rw [h i hi (by omega)]; simp
theorem zx_lo {v : Int64} (h : ∀ i, i < 64 → 32 ≤ i → v.toBitVec.getLsbD i = false) : v = zx v.toInt32 := by
  apply zx_0
  apply Int64.toBitVec_inj.mp
  rw [Int64.toBitVec_and]
  exact bv_lo _ h
theorem zx_hi (x : Int32) (i : Nat) (h : 32 ≤ i) : (zx x).toBitVec.getLsbD i = false := by
  rw [zx_bv, BitVec.getLsbD_setWidth, BitVec.getLsbD_of_ge _ _ h]; simp
theorem mx_hi {v : Int64} (i : Nat) (h : 32 ≤ i) : (v &&& zL 4294967295).toBitVec.getLsbD i = false := by
  rw [zx_mask]; exact zx_hi _ i h
theorem mx_0 (b c d : Int32) : (zx b &&& zx c) ||| (((zx b ^^^ zL (-1)) &&& zx d) &&& zL 4294967295) = zx ((b &&& c) ||| ((b ^^^ zI (-1)) &&& d)) := by
  refine (zx_lo ?_).trans ?_
  · intro i hi h
    rw [Int64.toBitVec_or, BitVec.getLsbD_or, mx_hi i h, Int64.toBitVec_and, BitVec.getLsbD_and, zx_hi b i h]; rfl
  · rw [Int64.toInt32_or, Int64.toInt32_and, Int64.toInt32_and, Int64.toInt32_and, Int64.toInt32_xor, zx_i, zx_i, zx_i]
    congr 1
    apply Int32.toBitVec_inj.mp
    rw [Int32.toBitVec_or, Int32.toBitVec_or]
    congr 1
    rw [Int32.toBitVec_and]
    show _ &&& BitVec.allOnes 32 = _
    rw [BitVec.and_allOnes]
    rfl
theorem mx_2 (b c d : Int32) : (zx b ^^^ zx c) ^^^ zx d = zx ((b ^^^ c) ^^^ d) := by
  refine (zx_lo ?_).trans ?_
  · intro i hi h
    rw [Int64.toBitVec_xor, BitVec.getLsbD_xor, Int64.toBitVec_xor, BitVec.getLsbD_xor, zx_hi b i h, zx_hi c i h, zx_hi d i h]; rfl
  · rw [Int64.toInt32_xor, Int64.toInt32_xor, zx_i, zx_i, zx_i]
theorem mx_3 (b c d : Int32) : zx c ^^^ (zx b ||| ((zx d ^^^ zL (-1)) &&& zL 4294967295)) = zx (c ^^^ (b ||| (d ^^^ zI (-1)))) := by
  refine (zx_lo ?_).trans ?_
  · intro i hi h
    rw [Int64.toBitVec_xor, BitVec.getLsbD_xor, Int64.toBitVec_or, BitVec.getLsbD_or, mx_hi i h, zx_hi c i h, zx_hi b i h]; rfl
  · rw [Int64.toInt32_xor, Int64.toInt32_or, Int64.toInt32_and, Int64.toInt32_xor, zx_i, zx_i, zx_i]
    congr 3
    apply Int32.toBitVec_inj.mp
    rw [Int32.toBitVec_and]
    show _ &&& BitVec.allOnes 32 = _
    rw [BitVec.and_allOnes]
    rfl
theorem bv_rt (x : BitVec 32) (s : Nat) (h : 1 ≤ s ∧ s ≤ 31) : (((x.setWidth 64) <<< s) ||| ((x.setWidth 64).sshiftRight (32 - s))).setWidth 32 = (x <<< s) ||| (x >>> (32 - s)) := by
  apply BitVec.eq_of_getLsbD_eq
  intro i hi
  have hm : (x.setWidth 64).msb = false := by
    rw [BitVec.msb_eq_getLsbD_last, BitVec.getLsbD_setWidth, BitVec.getLsbD_of_ge _ _ (by decide)]; simp
  rw [BitVec.getLsbD_setWidth, BitVec.getLsbD_or, BitVec.getLsbD_or, BitVec.getLsbD_shiftLeft, BitVec.getLsbD_shiftLeft, BitVec.getLsbD_ushiftRight, BitVec.getLsbD_sshiftRight, hm, BitVec.getLsbD_setWidth, BitVec.getLsbD_setWidth]
  have h1 : i < 64 := by omega
  have h2 : i - s < 64 := by omega
  have h4 : ¬ 64 ≤ i := by omega
  by_cases h3 : 32 - s + i < 64
  · simp [hi, h1, h2, h3, h4]
  · have : x.getLsbD (32 - s + i) = false := BitVec.getLsbD_of_ge _ _ (by omega)
    simp [hi, h1, h2, h3, this]
theorem rt_eq (x : Int32) {t : Int} (h : 1 ≤ t ∧ t ≤ 31) : ((zx x <<< ((zI t).toInt64 &&& 63)) ||| (zx x >>> ((zI (32 - t)).toInt64 &&& 63))) &&& zL 4294967295 = zx (rtF x (zI t)) := by
  rw [zx_mask]
  congr 1
  apply Int32.toBitVec_inj.mp
  have k1 : ∀ s : Fin 32, (((zI (s.val : Int)).toInt64 &&& 63).toBitVec.smod 64).toNat = s.val := by decide +kernel
  have k2 : ∀ s : Fin 32, 1 ≤ s.val → (((zI (32 - (s.val : Int))).toInt64 &&& 63).toBitVec.smod 64).toNat = 32 - s.val := by decide +kernel
  have k3 : ∀ s : Fin 32, ((zI (s.val : Int) &&& 31).toBitVec.smod 32).toNat = s.val := by decide +kernel
  have k4 : ∀ s : Fin 32, 1 ≤ s.val → (((zI 32 - zI (s.val : Int)).toUInt32 &&& Int32.toUInt32 31).toBitVec % 32).toNat = 32 - s.val := by decide +kernel
  have e : ((t.toNat : Nat) : Int) = t := by omega
  have q1 := k1 ⟨t.toNat, by omega⟩
  have q2 := k2 ⟨t.toNat, by omega⟩ (by show 1 ≤ t.toNat; omega)
  have q3 := k3 ⟨t.toNat, by omega⟩
  have q4 := k4 ⟨t.toNat, by omega⟩ (by show 1 ≤ t.toNat; omega)
  simp only [e] at q1 q2 q3 q4
  rw [l_i, Int64.toBitVec_or, l_shl _ _ _ q1, l_shr _ _ _ q2, zx_bv, bv_rt _ _ (by omega)]
  unfold rtF
  rw [Int32.toBitVec_or]
  have a1 : (x <<< (zI t &&& 31)).toBitVec = x.toBitVec <<< t.toNat := by
    rw [← q3]; rfl
  have a2 : ((x.toUInt32 >>> ((zI 32 - zI t).toUInt32 &&& Int32.toUInt32 31)).toInt32).toBitVec = x.toBitVec >>> (32 - t.toNat) := by
    rw [← q4]; exact UInt32.toBitVec_shiftRight _ _
  rw [a1, a2]
/-- a byte laid above those that are there -/
theorem or_by {x y : Int} (j : Fin 4) (hx : 0 ≤ x ∧ x < 2 ^ (8 * j.val)) (hy : 0 ≤ y ∧ y < 256) : zI x ||| (zI y <<< (zI (8 * (j.val : Int)) &&& 31)) = zI (x + y * 2 ^ (8 * j.val)) := by
  apply Int32.toBitVec_inj.mp
  apply BitVec.eq_of_toNat_eq
  have k3 : ∀ s : Fin 4, ((zI (8 * (s.val : Int)) &&& 31).toBitVec.smod 32).toNat = 8 * s.val := by decide +kernel
  have hp : (2 : Nat) ^ (8 * j.val) ≤ 2 ^ 24 := Nat.pow_le_pow_right (by decide) (by omega)
  have hp2 : ((2 : Int) ^ (8 * j.val)) = (((2 : Nat) ^ (8 * j.val) : Nat) : Int) := by norm_cast
  have hx2 : x < (((2 : Nat) ^ (8 * j.val) : Nat) : Int) := by rw [← hp2]; exact hx.2
  have hx1 := hx.1
  rw [hp2]
  clear hx hp2
  generalize hN : (2 : Nat) ^ (8 * j.val) = N at *
  have hyN : y.toNat * N ≤ 255 * N := Nat.mul_le_mul_right N (by omega)
  rw [Int32.toBitVec_or, BitVec.toNat_or, pk_shl _ _ _ (k3 j), zI_tn, zI_tn, zI_tn, hN]
  have e1 : (x % 4294967296).toNat = x.toNat := by omega
  have e2 : (y % 4294967296).toNat = y.toNat := by omega
  have e4 : y * (N : Int) = ((y.toNat * N : Nat) : Int) := by rw [Int.natCast_mul, Int.toNat_of_nonneg hy.1]
  have e3 : ((x + y * (N : Int)) % 4294967296).toNat = x.toNat + y.toNat * N := by rw [e4]; clear e4; generalize y.toNat * N = P at *; omega
  rw [e1, e2, e3, Nat.mod_eq_of_lt (by omega)]
  have h := Nat.shiftLeft_add_eq_or_of_lt (i := 8 * j.val) (b := x.toNat) (by rw [hN]; omega) y.toNat
  rw [Nat.shiftLeft_eq, hN] at h
  rw [Nat.or_comm, ← h, Nat.add_comm]
/-- byte i of a block that is not padded yet -/
def byB (g : Int → Int) (p m dn : Int) (T i : Int) : Int := if i < T then (if dn + i < m then g (p + dn + i) else 128) else 0
theorem byB_b {g : Int → Int} {p m dn T i : Int} (hB : isB g) : 0 ≤ byB g p m dn T i ∧ byB g p m dn T i < 256 := by
  have := hB (p + dn + i)
  unfold byB
  split
  · split <;> omega
  · omega
theorem wbL_eq {g : Int → Int} {p m dn : Int} (hB : isB g) : ∀ (T : Nat) (k : Nat), wbL g p m dn T k = zI (byB g p m dn T (4 * k) + byB g p m dn T (4 * k + 1) * 256 + byB g p m dn T (4 * k + 2) * 65536 + byB g p m dn T (4 * k + 3) * 16777216) := by
  intro T
  induction T with
  | zero =>
    intro k
    have e : ∀ i : Int, 0 ≤ i → byB g p m dn ((0 : Nat) : Int) i = 0 := fun i hi => if_neg (by omega)
    rw [e _ (by omega), e _ (by omega), e _ (by omega), e _ (by omega)]
    rfl
  | succ T ih =>
    intro k
    rw [wbL_k]
    unfold upd
    have hs : ∀ i : Int, i ≠ T → byB g p m dn ((T + 1 : Nat) : Int) i = byB g p m dn (T : Int) i := by
      intro i hi
      unfold byB
      by_cases h : i < T
      · rw [if_pos h, if_pos (by omega)]
      · rw [if_neg h, if_neg (by omega)]
    have hT : byB g p m dn ((T + 1 : Nat) : Int) T = if dn + T < m then g (p + dn + T) else 128 := if_pos (by omega)
    have hz : ∀ i : Int, (T : Int) ≤ i → byB g p m dn (T : Int) i = 0 := fun i hi => if_neg (by omega)
    by_cases hk : k = ((T : Int) / 4).toNat
    · rw [if_pos hk, ← hk, ih k]
      have b0 := byB_b (p := p) (m := m) (dn := dn) (T := T) (i := 4 * k) hB
      have b1 := byB_b (p := p) (m := m) (dn := dn) (T := T) (i := 4 * k + 1) hB
      have b2 := byB_b (p := p) (m := m) (dn := dn) (T := T) (i := 4 * k + 2) hB
      have hv : 0 ≤ (if dn + (T : Int) < m then g (p + dn + T) else 128) ∧ (if dn + (T : Int) < m then g (p + dn + T) else 128) < 256 := by
        have := hB (p + dn + T)
        split <;> omega
      rw [← hT] at hv ⊢
      rcases (show (T : Int) = 4 * k ∨ (T : Int) = 4 * k + 1 ∨ (T : Int) = 4 * k + 2 ∨ (T : Int) = 4 * k + 3 by omega) with e | e | e | e
      · rw [hz (4 * k) (by omega), hz (4 * k + 1) (by omega), hz (4 * k + 2) (by omega), hz (4 * k + 3) (by omega), show (T : Int) % 4 = 0 by omega]
        have h := or_by (x := 0) (y := byB g p m dn ((T + 1 : Nat) : Int) T) 0 ⟨by decide, by decide⟩ hv
        rw [hs (4 * k + 1) (by omega), hs (4 * k + 2) (by omega), hs (4 * k + 3) (by omega), hz (4 * k + 1) (by omega), hz (4 * k + 2) (by omega), hz (4 * k + 3) (by omega)]
        rw [← e]
        refine Eq.trans (congrArg (fun q => q ||| _) (show zI (0 + 0 * 256 + 0 * 65536 + 0 * 16777216) = zI 0 by rfl)) (h.trans ?_)
        exact congrArg zI (show 0 + byB g p m dn ((T + 1 : Nat) : Int) T * 2 ^ 0 = byB g p m dn ((T + 1 : Nat) : Int) T + 0 * 256 + 0 * 65536 + 0 * 16777216 by omega)
      · rw [hz (4 * k + 1) (by omega), hz (4 * k + 2) (by omega), hz (4 * k + 3) (by omega), show (T : Int) % 4 = 1 by omega]
        have h := or_by (x := byB g p m dn (T : Int) (4 * k)) (y := byB g p m dn ((T + 1 : Nat) : Int) T) 1 ⟨by omega, by show _ < (2 : Int) ^ 8; omega⟩ hv
        rw [hs (4 * k) (by omega), hs (4 * k + 2) (by omega), hs (4 * k + 3) (by omega), hz (4 * k + 2) (by omega), hz (4 * k + 3) (by omega)]
        rw [← e]
        refine Eq.trans (congrArg (fun q => zI q ||| _) (show _ = byB g p m dn (T : Int) (4 * k) by omega)) (h.trans ?_)
        congr 1
        show _ + _ * (2 : Int) ^ 8 = _
        omega
      · rw [hz (4 * k + 2) (by omega), hz (4 * k + 3) (by omega), show (T : Int) % 4 = 2 by omega]
        have h := or_by (x := byB g p m dn (T : Int) (4 * k) + byB g p m dn (T : Int) (4 * k + 1) * 256) (y := byB g p m dn ((T + 1 : Nat) : Int) T) 2 ⟨by omega, by show _ < (2 : Int) ^ 16; omega⟩ hv
        rw [hs (4 * k) (by omega), hs (4 * k + 1) (by omega), hs (4 * k + 3) (by omega), hz (4 * k + 3) (by omega)]
        rw [← e]
        refine Eq.trans (congrArg (fun q => zI q ||| _) (show _ = byB g p m dn (T : Int) (4 * k) + byB g p m dn (T : Int) (4 * k + 1) * 256 by omega)) (h.trans ?_)
        congr 1
        show _ + _ * (2 : Int) ^ 16 = _
        omega
      · rw [hz (4 * k + 3) (by omega), show (T : Int) % 4 = 3 by omega]
        have h := or_by (x := byB g p m dn (T : Int) (4 * k) + byB g p m dn (T : Int) (4 * k + 1) * 256 + byB g p m dn (T : Int) (4 * k + 2) * 65536) (y := byB g p m dn ((T + 1 : Nat) : Int) T) 3 ⟨by omega, by show _ < (2 : Int) ^ 24; omega⟩ hv
        rw [hs (4 * k) (by omega), hs (4 * k + 1) (by omega), hs (4 * k + 2) (by omega)]
        rw [← e]
        refine Eq.trans (congrArg (fun q => zI q ||| _) (show _ = byB g p m dn (T : Int) (4 * k) + byB g p m dn (T : Int) (4 * k + 1) * 256 + byB g p m dn (T : Int) (4 * k + 2) * 65536 by omega)) (h.trans ?_)
        congr 1
    · rw [if_neg hk, ih k, hs (4 * k) (by omega), hs (4 * k + 1) (by omega), hs (4 * k + 2) (by omega), hs (4 * k + 3) (by omega)]
/-- byte i of a message of m bytes, padded -/
def pdB (g : Int → Int) (p m : Int) (i : Int) : Int := if i < m then g (p + i) else if i < pdF m - 8 then (if i = m then 128 else 0) else pbF (zL (8 * m)) (i - pdF m + 8)
def wdB (g : Int → Int) (p m i : Int) : Int := 256 * (256 * (256 * (256 * 0 + pdB g p m (i + 3)) + pdB g p m (i + 2)) + pdB g p m (i + 1)) + pdB g p m (i + 0)
theorem pbF_len : ∀ m : Fin 701, ∀ s : Fin 8, pbF (zL (8 * (m.val : Int))) (s.val : Int) = if s.val = 0 then 8 * (m.val : Int) % 256 else if s.val = 1 then 8 * (m.val : Int) / 256 else 0 := by decide +kernel
theorem wb_eq {g : Int → Int} {p m dn k : Int} (hB : isB g) (hm : 0 ≤ m ∧ m ≤ 700) (hd : 0 ≤ dn ∧ dn % 64 = 0 ∧ dn + 64 ≤ pdF m) (hk : 0 ≤ k ∧ k < 16) : wbF g p m dn k.toNat = zI (wdB g p m (dn + 4 * k)) := by
  have hpd : pdF m = ((m + 8) / 64 + 1) * 64 := rfl
  have hkk : ((k.toNat : Nat) : Int) = k := by omega
  have hn : nit m dn = 0 ∨ 0 < nit m dn := by unfold nit; split; exact Or.inl rfl; split <;> omega
  have hnn : ((nit m dn).toNat : Int) = nit m dn := by omega
  have hl := wbL_eq (p := p) (m := m) (dn := dn) hB (nit m dn).toNat k.toNat
  rw [hnn, hkk] at hl
  have hby : ∀ i : Int, 0 ≤ i → i < 64 → dn + i < pdF m - 8 → byB g p m dn (nit m dn) i = pdB g p m (dn + i) := by
    intro i h0 h1 h2
    unfold byB pdB nit
    rw [Int.add_assoc]
    by_cases c1 : dn + i < m
    · rw [if_pos c1, if_pos c1, if_pos]
      rw [if_neg (by omega)]
      split <;> omega
    · rw [if_neg c1, if_neg c1, if_pos h2]
      by_cases c2 : dn + i = m
      · rw [if_pos c2, if_pos]
        rw [if_neg (by omega)]
        split <;> omega
      · rw [if_neg c2, if_neg]
        split
        · omega
        · split <;> omega
  have hlen := fun s : Fin 8 => pbF_len ⟨m.toNat, by omega⟩ s
  have hmm : ((m.toNat : Nat) : Int) = m := by omega
  simp only [hmm] at hlen
  unfold wbF wdB
  by_cases hlast : dn + 64 = pdF m
  · rw [if_pos hlast]
    unfold upd
    by_cases h14 : k = 14
    · subst h14
      rw [if_pos (show (14 : Int).toNat = 14 from rfl)]
      congr 1
      have e0 : pdB g p m (dn + 4 * 14 + 0) = pbF (zL (8 * m)) ((0 : Fin 8).val : Int) := by
        unfold pdB; rw [if_neg (by omega), if_neg (by omega)]; congr 1; show _ = (0 : Int); omega
      have e1 : pdB g p m (dn + 4 * 14 + 1) = pbF (zL (8 * m)) ((1 : Fin 8).val : Int) := by
        unfold pdB; rw [if_neg (by omega), if_neg (by omega)]; congr 1; show _ = (1 : Int); omega
      have e2 : pdB g p m (dn + 4 * 14 + 2) = pbF (zL (8 * m)) ((2 : Fin 8).val : Int) := by
        unfold pdB; rw [if_neg (by omega), if_neg (by omega)]; congr 1; show _ = (2 : Int); omega
      have e3 : pdB g p m (dn + 4 * 14 + 3) = pbF (zL (8 * m)) ((3 : Fin 8).val : Int) := by
        unfold pdB; rw [if_neg (by omega), if_neg (by omega)]; congr 1; show _ = (3 : Int); omega
      rw [e0, e1, e2, e3, (hlen 0).trans (if_pos rfl), (hlen 1).trans ((if_neg (by decide)).trans (if_pos rfl)), (hlen 2).trans ((if_neg (by decide)).trans (if_neg (by decide))), (hlen 3).trans ((if_neg (by decide)).trans (if_neg (by decide)))]
      omega
    · rw [if_neg (by omega), hl]
      by_cases h15 : k = 15
      · subst h15
        congr 1
        have e0 : pdB g p m (dn + 4 * 15 + 0) = pbF (zL (8 * m)) ((4 : Fin 8).val : Int) := by
          unfold pdB; rw [if_neg (by omega), if_neg (by omega)]; congr 1; show _ = (4 : Int); omega
        have e1 : pdB g p m (dn + 4 * 15 + 1) = pbF (zL (8 * m)) ((5 : Fin 8).val : Int) := by
          unfold pdB; rw [if_neg (by omega), if_neg (by omega)]; congr 1; show _ = (5 : Int); omega
        have e2 : pdB g p m (dn + 4 * 15 + 2) = pbF (zL (8 * m)) ((6 : Fin 8).val : Int) := by
          unfold pdB; rw [if_neg (by omega), if_neg (by omega)]; congr 1; show _ = (6 : Int); omega
        have e3 : pdB g p m (dn + 4 * 15 + 3) = pbF (zL (8 * m)) ((7 : Fin 8).val : Int) := by
          unfold pdB; rw [if_neg (by omega), if_neg (by omega)]; congr 1; show _ = (7 : Int); omega
        rw [e0, e1, e2, e3, (hlen 4).trans ((if_neg (by decide)).trans (if_neg (by decide))), (hlen 5).trans ((if_neg (by decide)).trans (if_neg (by decide))), (hlen 6).trans ((if_neg (by decide)).trans (if_neg (by decide))), (hlen 7).trans ((if_neg (by decide)).trans (if_neg (by decide)))]
        have z : ∀ i : Int, 60 ≤ i → byB g p m dn (nit m dn) i = 0 := by
          intro i hi
          unfold byB nit
          rw [if_neg]
          split
          · omega
          · split <;> omega
        rw [z _ (by omega), z _ (by omega), z _ (by omega), z _ (by omega)]
        rfl
      · rw [hby _ (by omega) (by omega) (by omega), hby _ (by omega) (by omega) (by omega), hby _ (by omega) (by omega) (by omega), hby _ (by omega) (by omega) (by omega)]
        congr 1
        rw [Int.add_zero, ← Int.add_assoc, ← Int.add_assoc, ← Int.add_assoc]
        omega
  · rw [if_neg hlast, hl, hby _ (by omega) (by omega) (by omega), hby _ (by omega) (by omega) (by omega), hby _ (by omega) (by omega) (by omega), hby _ (by omega) (by omega) (by omega)]
    congr 1
    rw [Int.add_zero, ← Int.add_assoc, ← Int.add_assoc, ← Int.add_assoc]
    omega
theorem bv_sh3 (a b c d : BitVec 64) : ((((0#64 <<< 8 ||| a) <<< 8 ||| b) <<< 8 ||| c) <<< 8 ||| d) = ((a <<< 24 ||| b <<< 16) ||| c <<< 8) ||| d := by
  have z : (0#64 <<< 8) = 0#64 := by decide
  rw [z, BitVec.zero_or, BitVec.shiftLeft_or_distrib, BitVec.shiftLeft_or_distrib, BitVec.shiftLeft_or_distrib, ← BitVec.shiftLeft_add, ← BitVec.shiftLeft_add, ← BitVec.shiftLeft_add]
theorem bv_by (x : BitVec 32) (s : Nat) : (((x.setWidth 64).sshiftRight s) &&& 255#64) = ((x >>> s) &&& 255#32).signExtend 64 := by
  have hm : (x.setWidth 64).msb = false := by
    rw [BitVec.msb_eq_getLsbD_last, BitVec.getLsbD_setWidth, BitVec.getLsbD_of_ge _ _ (by decide)]; simp
  have hm2 : ((x >>> s) &&& 255#32).msb = false := by
    rw [BitVec.msb_eq_getLsbD_last, BitVec.getLsbD_and]
    have : (255#32).getLsbD (32 - 1) = false := by decide
    rw [this]; simp
  rw [BitVec.signExtend_eq_setWidth_of_msb_false hm2]
  apply BitVec.eq_of_getLsbD_eq
  intro i hi
  have e1 : (255#64).getLsbD i = decide (i < 8) := by
    have : (255#64) = BitVec.ofNat 64 (2 ^ 8 - 1) := rfl
    rw [this, BitVec.getLsbD_ofNat, Nat.testBit_two_pow_sub_one]
    simp; omega
  rw [BitVec.getLsbD_and, e1, BitVec.getLsbD_setWidth, BitVec.getLsbD_and, BitVec.getLsbD_sshiftRight, hm, BitVec.getLsbD_ushiftRight]
  by_cases h8 : i < 8
  · have e2 : (255#32).getLsbD i = decide (i < 8) := by
      have : (255#32) = BitVec.ofNat 32 (2 ^ 8 - 1) := rfl
      rw [this, BitVec.getLsbD_ofNat, Nat.testBit_two_pow_sub_one]
      simp; omega
    rw [e2]
    have h4 : ¬ 64 ≤ i := by omega
    by_cases h3 : s + i < 64
    · rw [BitVec.getLsbD_setWidth]
      simp [h8, hi, h3, h4]
    · have : x.getLsbD (s + i) = false := BitVec.getLsbD_of_ge _ _ (by omega)
      simp [h8, hi, h3, h4, this]
  · have e2 : (255#32).getLsbD i = false := by
      have : (255#32) = BitVec.ofNat 32 (2 ^ 8 - 1) := rfl
      rw [this, BitVec.getLsbD_ofNat, Nat.testBit_two_pow_sub_one]
      simp; omega
    rw [e2]
    simp [h8]
theorem bv_24 (x : BitVec 32) : (x.setWidth 64).sshiftRight 24 = (((x.setWidth 64).sshiftRight 24) &&& 255#64) := by
  apply BitVec.eq_of_getLsbD_eq
  intro i hi
  have e1 : (255#64).getLsbD i = decide (i < 8) := by
    have : (255#64) = BitVec.ofNat 64 (2 ^ 8 - 1) := rfl
    rw [this, BitVec.getLsbD_ofNat, Nat.testBit_two_pow_sub_one]
    simp; omega
  have hm : (x.setWidth 64).msb = false := by
    rw [BitVec.msb_eq_getLsbD_last, BitVec.getLsbD_setWidth, BitVec.getLsbD_of_ge _ _ (by decide)]; simp
  rw [BitVec.getLsbD_and, e1]
  by_cases h8 : i < 8
  · simp [h8]
  · rw [BitVec.getLsbD_sshiftRight, hm, BitVec.getLsbD_setWidth]
    have : x.getLsbD (24 + i) = false := BitVec.getLsbD_of_ge _ _ (by omega)
    simp [h8, this]
theorem ar_eq (x : Int32) : ((((zx x &&& zL 255) <<< ((zI 24).toInt64 &&& 63)) ||| (((zx x >>> ((zI 8).toInt64 &&& 63)) &&& zL 255) <<< ((zI 16).toInt64 &&& 63))) ||| (((zx x >>> ((zI 16).toInt64 &&& 63)) &&& zL 255) <<< ((zI 8).toInt64 &&& 63))) ||| (zx x >>> ((zI 24).toInt64 &&& 63)) = lwF x := by
  apply Int64.toBitVec_inj.mp
  have k8 : (((zI 8).toInt64 &&& 63).toBitVec.smod 64).toNat = 8 := by decide
  have k16 : (((zI 16).toInt64 &&& 63).toBitVec.smod 64).toNat = 16 := by decide
  have k24 : (((zI 24).toInt64 &&& 63).toBitVec.smod 64).toNat = 24 := by decide
  rw [Int64.toBitVec_or, Int64.toBitVec_or, Int64.toBitVec_or, l_shl _ _ _ k24, l_shl _ _ _ k16, l_shl _ _ _ k8, l_shr _ _ _ k24, Int64.toBitVec_and, Int64.toBitVec_and, Int64.toBitVec_and, l_shr _ _ _ k16, l_shr _ _ _ k8, zx_bv]
  have e0 : x.toBitVec.setWidth 64 &&& (zL 255).toBitVec = ((x.toBitVec >>> 0) &&& 255#32).signExtend 64 := by
    have := bv_by x.toBitVec 0
    rw [BitVec.sshiftRight_zero] at this
    exact this
  have e1 : (x.toBitVec.setWidth 64).sshiftRight 8 &&& (zL 255).toBitVec = ((x.toBitVec >>> 8) &&& 255#32).signExtend 64 := bv_by x.toBitVec 8
  have e2 : (x.toBitVec.setWidth 64).sshiftRight 16 &&& (zL 255).toBitVec = ((x.toBitVec >>> 16) &&& 255#32).signExtend 64 := bv_by x.toBitVec 16
  have e3 : (x.toBitVec.setWidth 64).sshiftRight 24 = ((x.toBitVec >>> 24) &&& 255#32).signExtend 64 := (bv_24 _).trans (bv_by x.toBitVec 24)
  rw [e0, e1, e2, e3, ← bv_sh3]
  have lb : ∀ (v : Int64) (i : Int) (n : Nat), (((zI (8 * i)).toUInt32 &&& Int32.toUInt32 31).toBitVec % 32).toNat = n → (lwS v x i).toBitVec = v.toBitVec <<< 8 ||| ((x.toBitVec >>> n) &&& 255#32).signExtend 64 := by
    intro v i n hn
    unfold lwS
    rw [Int64.toBitVec_or, l_shl _ _ _ k8, Int32.toBitVec_toInt64, Int32.toBitVec_and]
    have a2 : ((x.toUInt32 >>> ((zI (8 * i)).toUInt32 &&& Int32.toUInt32 31)).toInt32).toBitVec = x.toBitVec >>> n := by
      rw [← hn]; exact UInt32.toBitVec_shiftRight _ _
    rw [a2]; rfl
  unfold lwF
  rw [lb _ 3 24 (by decide), lb _ 2 16 (by decide), lb _ 1 8 (by decide), lb _ 0 0 (by decide)]
  rfl
theorem pdB_b {g : Int → Int} {p m i : Int} (hB : isB g) : 0 ≤ pdB g p m i ∧ pdB g p m i < 256 := by
  have h1 := hB (p + i)
  have h2 := pbF_b (zL (8 * m)) (i - pdF m + 8)
  unfold pdB
  split
  · exact h1
  · split
    · split <;> omega
    · exact h2
def kq : List Int64 := [-2924344168815282346, 2603204673770737390, -757713391811312086, -6327480424787962623, 7602244226818308015, -180656904808514, 7750713800685810067, -6451050712830572511, -712090585015471296, 2764746529111984042, -3013171634031553453, -2836732844652102712, 2441458864012855254, -804722083780487955, -6204859649658739720, 7453179041720978570, -1625891957246335, 7898576124394158092, -6575560826862776407, -667857240845206416, 2926071775712323578, -3103208270370169595, -2750344525311665691, 2279521769296254565, -853112977829986409, -6083197992266653639, 7303529917164866706, -4516254655947311, 8045819616329262816, -6701001016063028831, -625016823288761803, 3087167774137963409]
def kkF (j : Nat) : Int64 := kq.getD j 0
theorem kk_at : ∀ i : Fin 64, (kkF (i.val / 2) >>> ((zI (if i.val % 2 = 0 then 32 else 0)).toInt64 &&& 63)) &&& zL 4294967295 = zx (kt_K.getD i.val 0) := by decide +kernel
theorem kk_i {i s : Int} (h : 0 ≤ i ∧ i < 64) (hs : s = if i % 2 = 0 then 32 else 0) : (kkF (i / 2).toNat >>> ((zI s).toInt64 &&& 63)) &&& zL 4294967295 = zx (kt_K.getD i.toNat 0) := by
  have h1 := kk_at ⟨i.toNat, by omega⟩
  have e1 : (i / 2).toNat = i.toNat / 2 := by omega
  have e2 : (if i.toNat % 2 = 0 then (32 : Int) else 0) = s := by
    rw [hs]
    by_cases q : i % 2 = 0
    · rw [if_pos q, if_pos (by omega)]
    · rw [if_neg q, if_neg (by omega)]
  rw [e1, ← e2]
  exact h1
def tnF (i : Int) : Int := (kt_T.getD (i / 16 * 4 + i % 4).toNat 0).toInt
theorem tn_at {i c q : Int} (h1 : i / 16 = c) (h2 : i % 4 = q) : tnF i = (kt_T.getD (c * 4 + q).toNat 0).toInt := by
  unfold tnF; rw [h1, h2]
theorem tn_z (i : Int) : zI (tnF i) = kt_T.getD (i / 16 * 4 + i % 4).toNat 0 := zI_self _
theorem tn_b : ∀ i : Fin 64, 1 ≤ tnF i.val ∧ tnF i.val ≤ 31 := by decide +kernel
theorem tnF_b {i : Int} (h : 0 ≤ i ∧ i < 64) : 1 ≤ tnF i ∧ tnF i ≤ 31 := by
  have h1 := tn_b ⟨i.toNat, by omega⟩
  have e : ((i.toNat : Nat) : Int) = i := by omega
  simp only [e] at h1
  exact h1
theorem sP_b {g : Int → Int} (hB : isB g) (a : Int) (k : Nat) : 0 ≤ sP g a k ∧ sP g a k ≤ 255 * k := by
  induction k with
  | zero => exact ⟨Int.le_refl 0, Int.le_refl 0⟩
  | succ k ih =>
    have := hB (a + k)
    show 0 ≤ sP g a k + g (a + k) ∧ sP g a k + g (a + k) ≤ 255 * ((k + 1 : Nat) : Int)
    omega
theorem sW_b {g : Int → Int} (hB : isB g) (a n : Int) (hn : n ≤ 700) (k : Nat) (hk : (k : Int) ≤ n) : 0 ≤ sW g a n k ∧ sW g a n k ≤ 178500 * k := by
  induction k with
  | zero => exact ⟨Int.le_refl 0, Int.le_refl 0⟩
  | succ k ih =>
    have h1 := hB (a + k)
    have h2 := ih (by omega)
    show 0 ≤ sW g a n k + (n - k) * g (a + k) ∧ sW g a n k + (n - k) * g (a + k) ≤ 178500 * ((k + 1 : Nat) : Int)
    have h3 : 0 ≤ (n - k) * g (a + k) := Int.mul_nonneg (by omega) h1.1
    have h4 : (n - k) * g (a + k) ≤ 700 * 255 := Int.mul_le_mul (by omega) (by omega) h1.1 (by decide)
    omega
