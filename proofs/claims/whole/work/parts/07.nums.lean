/-! numbers: bits of zI -/
theorem zI_tn (x : Int) : (zI x).toBitVec.toNat = (x % 4294967296).toNat := by
  show (BitVec.ofInt 32 x).toNat = _
  rw [BitVec.toNat_ofInt]
  rfl
theorem nI_zI (m : Nat) : nI m = zI m := Int32.ofInt_eq_ofNat.symm
theorem zI_and (x : Int) (k : Nat) {m : Int} (hm : m = 2 ^ k - 1) (hk : k ≤ 31) : zI x &&& zI m = zI (x % 2 ^ k) := by
  have h2 : (2 : Int) ^ k = ((2 ^ k : Nat) : Int) := by norm_cast
  have hp : 2 ^ k ≤ 2 ^ 31 := Nat.pow_le_pow_right (by decide) hk
  have hp1 : 1 ≤ 2 ^ k := Nat.one_le_two_pow
  have hm2 : (zI m).toBitVec.toNat = 2 ^ k - 1 := by
    rw [zI_tn, hm, h2]
    omega
  rw [pk_and (zI x) k hm2, nI_zI, zI_tn]
  have hd : (2 ^ k : Nat) ∣ 4294967296 := by
    have : (4294967296 : Nat) = 2 ^ 32 := by decide
    rw [this]
    exact Nat.pow_dvd_pow 2 (by omega)
  have h3 : (((x % 4294967296).toNat : Nat) : Int) = x % 4294967296 := by omega
  have h5 : (((x % 4294967296).toNat % 2 ^ k : Nat) : Int) = x % 2 ^ k := by
    rw [Int.natCast_emod, h3, h2]
    exact Int.emod_emod_of_dvd x (Int.ofNat_dvd.mpr hd)
  rw [h5]
theorem zI_and127 (x : Int) : zI x &&& zI 127 = zI (x % 128) := zI_and x 7 rfl (by decide)
theorem zI_and255 (x : Int) : zI x &&& zI 255 = zI (x % 256) := zI_and x 8 rfl (by decide)
theorem zI_and1 (x : Int) : zI x &&& zI 1 = zI (x % 2) := zI_and x 1 rfl (by decide)
theorem zI_and3 (x : Int) : zI x &&& zI 3 = zI (x % 4) := zI_and x 2 rfl (by decide)
theorem zI_and7 (x : Int) : zI x &&& zI 7 = zI (x % 8) := zI_and x 3 rfl (by decide)
theorem zI_or128 {x : Int} (h : 0 ≤ x ∧ x < 128) : zI 128 ||| zI x = zI (128 + x) := by
  have : ∀ y : Fin 128, zI 128 ||| zI (y.val : Int) = zI (128 + (y.val : Int)) := by decide +kernel
  have h2 := this ⟨x.toNat, by omega⟩
  have h3 : ((x.toNat : Nat) : Int) = x := by omega
  simpa [h3] using h2
theorem zI_ushr {x : Int} (k : Nat) (h : 0 ≤ x ∧ x < 2147483648) (hs : (((zI k).toUInt32 &&& Int32.toUInt32 31).toBitVec % 32).toNat = k) : ((zI x).toUInt32 >>> ((zI k).toUInt32 &&& Int32.toUInt32 31)).toInt32 = zI (x / 2 ^ k) := by
  have e : zI x = nI x.toNat := by rw [nI_zI]; congr 1; omega
  have e2 : zI k = nI k := (nI_zI k).symm
  rw [e, pk_ushrN (by omega) (zI k) k hs, nI_zI]
  congr 1
  push_cast
  have : ((x.toNat : Nat) : Int) = x := by omega
  rw [this]
theorem zI_ushr21 {x : Int} (h : 0 ≤ x ∧ x < 2147483648) : ((zI x).toUInt32 >>> ((zI 21).toUInt32 &&& Int32.toUInt32 31)).toInt32 = zI (x / 2097152) := zI_ushr 21 h (by decide)
theorem zI_ushr14 {x : Int} (h : 0 ≤ x ∧ x < 2147483648) : ((zI x).toUInt32 >>> ((zI 14).toUInt32 &&& Int32.toUInt32 31)).toInt32 = zI (x / 16384) := zI_ushr 14 h (by decide)
theorem zI_ushr7 {x : Int} (h : 0 ≤ x ∧ x < 2147483648) : ((zI x).toUInt32 >>> ((zI 7).toUInt32 &&& Int32.toUInt32 31)).toInt32 = zI (x / 128) := zI_ushr 7 h (by decide)
