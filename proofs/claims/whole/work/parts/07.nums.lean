/-! numbers: bits of zI -/
theorem zI_tn (x : Int) : (zI x).toBitVec.toNat = (x % 4294967296).toNat := by
  show (BitVec.ofInt 32 x).toNat = _
  rw [BitVec.toNat_ofInt]
  rfl
theorem nI_zI (m : Nat) : nI m = zI m := Int32.ofInt_eq_ofNat.symm
theorem zI_and (x : Int) (k : Nat) {m : Int} (hm : m = 2 ^ k - 1) (hk : k ≤ 31) : zI x &&& zI m = zI (x % 2 ^ k) := by
  have h2 : (2 : Int) ^ k = ((2 ^ k : Nat) : Int) := by norm_cast
  have hp : 2 ^ k ≤ 2 ^ 31 := Nat.pow_le_pow_right (by decide) hk
  have hp1 : 1 ≤ 2 ^ k := Nat.one_le_two_pow
  have hm2 : (zI m).toBitVec.toNat = 2 ^ k - 1 := by
    rw [zI_tn, hm, h2]
    omega
  rw [pk_and (zI x) k hm2, nI_zI, zI_tn]
  have hd : (2 ^ k : Nat) ∣ 4294967296 := by
    have : (4294967296 : Nat) = 2 ^ 32 := by decide
    rw [this]
    exact Nat.pow_dvd_pow 2 (by omega)
  have h3 : (((x % 4294967296).toNat : Nat) : Int) = x % 4294967296 := by omega
  have h5 : (((x % 4294967296).toNat % 2 ^ k : Nat) : Int) = x % 2 ^ k := by
    rw [Int.natCast_emod, h3, h2]
    exact Int.emod_emod_of_dvd x (Int.ofNat_dvd.mpr hd)
  rw [h5]
theorem zI_and127 (x : Int) : zI x &&& zI 127 = zI (x % 128) := zI_and x 7 rfl (by decide)
theorem zI_and255 (x : Int) : zI x &&& zI 255 = zI (x % 256) := zI_and x 8 rfl (by decide)
theorem zI_and1 (x : Int) : zI x &&& zI 1 = zI (x % 2) := zI_and x 1 rfl (by decide)
theorem zI_and3 (x : Int) : zI x &&& zI 3 = zI (x % 4) := zI_and x 2 rfl (by decide)
theorem zI_and7 (x : Int) : zI x &&& zI 7 = zI (x % 8) := zI_and x 3 rfl (by decide)
theorem zI_or128 {x : Int} (h : 0 ≤ x ∧ x < 128) : zI 128 ||| zI x = zI (128 + x) := by
  have : ∀ y : Fin 128, zI 128 ||| zI (y.val : Int) = zI (128 + (y.val : Int)) := by decide +kernel
  have h2 := this ⟨x.toNat, by omega⟩
  have h3 : ((x.toNat : Nat) : Int) = x := by omega
  simpa [h3] using h2
theorem zI_ushr {x : Int} (k : Nat) (h : 0 ≤ x ∧ x < 2147483648) (hs : (((zI k).toUInt32 &&& Int32.toUInt32 31).toBitVec % 32).toNat = k) : ((zI x).toUInt32 >>> ((zI k).toUInt32 &&& Int32.toUInt32 31)).toInt32 = zI (x / 2 ^ k) := by
  have e : zI x = nI x.toNat := by rw [nI_zI]; congr 1; omega
  have e2 : zI k = nI k := (nI_zI k).symm
  rw [e, pk_ushrN (by omega) (zI k) k hs, nI_zI]
  congr 1
  push_cast
  have : ((x.toNat : Nat) : Int) = x := by omega
  rw [this]
theorem zI_ushr21 {x : Int} (h : 0 ≤ x ∧ x < 2147483648) : ((zI x).toUInt32 >>> ((zI 21).toUInt32 &&& Int32.toUInt32 31)).toInt32 = zI (x / 2097152) := zI_ushr 21 h (by decide)
theorem zI_ushr14 {x : Int} (h : 0 ≤ x ∧ x < 2147483648) : ((zI x).toUInt32 >>> ((zI 14).toUInt32 &&& Int32.toUInt32 31)).toInt32 = zI (x / 16384) := zI_ushr 14 h (by decide)
theorem zI_ushr7 {x : Int} (h : 0 ≤ x ∧ x < 2147483648) : ((zI x).toUInt32 >>> ((zI 7).toUInt32 &&& Int32.toUInt32 31)).toInt32 = zI (x / 128) := zI_ushr 7 h (by decide)
theorem zL_t {z : Int} (h : -9223372036854775808 ≤ z ∧ z < 9223372036854775808) : (zL z).toInt = z := Int64.toInt_ofInt_of_le (by omega) (by omega)
theorem zI_l {x : Int} (h : -2147483648 ≤ x ∧ x < 2147483648) : (zI x).toInt64 = zL x := by
  apply Int64.toInt_inj.mp
  rw [zL_t (by omega), Int32.toInt_toInt64, zI_t h]
theorem zL_i (x : Int) : (zL x).toInt32 = zI x := Int64.toInt32_ofInt
theorem zL_div {x y : Int} (h : 0 ≤ x ∧ x < 9223372036854775808 ∧ 0 < y ∧ y < 9223372036854775808) : zL x / zL y = zL (x / y) := by
  unfold zL
  rw [← Int64.ofInt_tdiv (by have : Int64.minValue.toInt = -9223372036854775808 := rfl
                             omega) (by have : Int64.maxValue.toInt = 9223372036854775807 := rfl
                                        omega) (by have : Int64.minValue.toInt = -9223372036854775808 := rfl
                                                   omega) (by have : Int64.maxValue.toInt = 9223372036854775807 := rfl
                                                              omega), Int.tdiv_eq_ediv_of_nonneg h.1]
theorem zL_eq {x y : Int} (h : -9223372036854775808 ≤ x ∧ x < 9223372036854775808 ∧ -9223372036854775808 ≤ y ∧ y < 9223372036854775808) : zL x = zL y ↔ x = y := by
  constructor
  · intro e
    have := congrArg Int64.toInt e
    rwa [zL_t ⟨h.1, h.2.1⟩, zL_t h.2.2] at this
  · intro e; rw [e]
theorem zL_lt {x y : Int} (h : -9223372036854775808 ≤ x ∧ x < 9223372036854775808 ∧ -9223372036854775808 ≤ y ∧ y < 9223372036854775808) : zL x < zL y ↔ x < y := by rw [Int64.lt_iff_toInt_lt, zL_t ⟨h.1, h.2.1⟩, zL_t h.2.2]
theorem zL_ne0 {y : Int} (h : 0 < y ∧ y < 9223372036854775808) : ¬ zL y = 0 := by
  intro e
  have := (zL_eq (x := y) (y := 0) ⟨by omega, h.2, by omega, by omega⟩).mp e
  omega
theorem zL_rem {x y : Int} (h : 0 ≤ x ∧ x < 9223372036854775808 ∧ 0 < y ∧ y < 9223372036854775808) : zL x - zL x / zL y * zL y = zL (x % y) := by
  rw [zL_div h]
  unfold zL
  rw [← Int64.ofInt_mul, ← Int64.ofInt_sub, Int.emod_def, Int.mul_comm]
theorem zI_and65535 (x : Int) : zI x &&& zI 65535 = zI (x % 65536) := zI_and x 16 rfl (by decide)
section RL
variable {E : EV} {X : XT} {own nm : String} {cc : ByteArray} {nL : Nat} {ret : Option FieldType} {rm : Room} {k n pc : Nat} {lv lv' : List (Nat × Value)} {st : List Value} {ws : va_W}
theorem G_lrem_z (hX : Ok E X own nm cc nL ret rm) {x y : Int} (hb : 0 ≤ x ∧ x < 9223372036854775808 ∧ 0 < y ∧ y < 9223372036854775808) (hd : decode cc pc = .ok (.lrem, 1)) (kk : G E X k n (pc + 1) lv (.long (zL (x % y)) :: st) ws) : G E X k n pc lv (.long (zL y) :: .long (zL x) :: st) ws := by
  refine G_lrem hX (zL_ne0 hb.2.2) hd ?_
  rw [zL_rem hb]; exact kk
end RL
