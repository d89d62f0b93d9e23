/-! DeltaFerry$Digester: halves and take; printed by wip/tools/m_dg2.py -/
def lwS (v : Int64) (x : Int32) (i : Int) : Int64 := (v <<< ((zI 8).toInt64 &&& 63)) ||| ((((x.toUInt32 >>> ((zI (8 * i)).toUInt32 &&& Int32.toUInt32 31)).toInt32) &&& zI 255).toInt64)
def lwF (x : Int32) : Int64 := lwS (lwS (lwS (lwS (zL 0) x 0) x 1) x 2) x 3
def hfF (x y : Int32) : Int64 := (lwF x <<< ((zI 32).toInt64 &&& 63)) ||| lwF y
def pdF (m : Int) : Int := ((m + 8) / 64 + 1) * 64
def wbL (g : Int → Int) (p m dn : Int) : Nat → Nat → Int32
  | 0 => fun _ => zI 0
  | k + 1 => upd (wbL g p m dn k) ((k : Int) / 4).toNat (wbL g p m dn k ((k : Int) / 4).toNat ||| (zI (if dn + k < m then g (p + dn + k) else 128) <<< (zI (8 * ((k : Int) % 4)) &&& 31)))
theorem wbL_k (g : Int → Int) (p m dn : Int) (k : Nat) : wbL g p m dn (k + 1) = upd (wbL g p m dn k) ((k : Int) / 4).toNat (wbL g p m dn k ((k : Int) / 4).toNat ||| (zI (if dn + k < m then g (p + dn + k) else 128) <<< (zI (8 * ((k : Int) % 4)) &&& 31))) := rfl
theorem wbL_s {g : Int → Int} {p m dn t : Int} (h : 0 ≤ t) : wbL g p m dn (t + 1).toNat = upd (wbL g p m dn t.toNat) (t / 4).toNat (wbL g p m dn t.toNat (t / 4).toNat ||| (zI (if dn + t < m then g (p + dn + t) else 128) <<< (zI (8 * (t % 4)) &&& 31))) := by
  rw [show (t + 1).toNat = t.toNat + 1 by omega, wbL_k, Int.toNat_of_nonneg h]
def nit (m dn : Int) : Int := if m < dn then 0 else if dn + 64 ≤ m + 1 then 64 else m - dn + 1
def wbF (g : Int → Int) (p m dn : Int) : Nat → Int32 := if dn + 64 = pdF m then upd (wbL g p m dn (nit m dn).toNat) 14 (zI (8 * m)) else wbL g p m dn (nit m dn).toNat
def m5I : S4 := (zI 1732584193, zI (-271733879), zI (-1732584194), zI 271733878)
def m5T (g : Int → Int) (p m : Int) : Nat → S4
  | 0 => m5I
  | k + 1 => m5B (wbF g p m (64 * k)) (m5T g p m k)
theorem m5T_0 (g : Int → Int) (p m : Int) : m5T g p m (0 : Int).toNat = m5I := rfl
theorem m5T_s {g : Int → Int} {p m t : Int} (h : 0 ≤ t) : m5T g p m (t + 1).toNat = m5B (wbF g p m (64 * t)) (m5T g p m t.toNat) := by
  rw [show (t + 1).toNat = t.toNat + 1 by omega]
  show m5B (wbF g p m (64 * (t.toNat : Int))) _ = _
  rw [Int.toNat_of_nonneg h]
def m5D (g : Int → Int) (p m : Int) : S4 := m5T g p m ((m + 8) / 64 + 1).toNat
theorem kc_Dg_16 : (1732584193 : Int32) = zI (1732584193) := by decide
theorem kc_Dg_17 : (-271733879 : Int32) = zI (-271733879) := by decide
theorem kc_Dg_18 : (-1732584194 : Int32) = zI (-1732584194) := by decide
theorem kc_Dg_19 : (271733878 : Int32) = zI (271733878) := by decide
theorem m4_n (s0 : Nat → Int32) (a b c d : Int32) : ∀ q, q < 4 → (upd (upd (upd (upd s0 (0 : Int).toNat a) (1 : Int).toNat b) (2 : Int).toNat c) (3 : Int).toNat d) q = m4 (a, b, c, d) q := by
  intro q hq
  rcases (show q = 0 ∨ q = 1 ∨ q = 2 ∨ q = 3 by omega) with rfl | rfl | rfl | rfl <;> rfl
def dgA (g : Int → Int) (p m : Int) : Int64 := hfF (m5D g p m).1 (m5D g p m).2.1
def dgB (g : Int → Int) (p m : Int) : Int64 := hfF (m5D g p m).2.2.1 (m5D g p m).2.2.2
theorem c_Dg_lowestFirst (E : EV) (f : Nat → va_E) (x : Int32) : CF yn_Dg_lowestFirst cd_Dg_lowestFirst 4 (some (.long)) 0 E [.int x] f (fun r f' => r = some (.long (lwF x)) ∧ f' = f) := by
  refine CF.of (by decide +kernel) (Nat.le_of_ble_eq_true rfl) fun X hX hE => ?_
  have hX : Ok E X "DeltaFerry$Digester" "lowestFirst" cd_Dg_lowestFirst 4 (some (.long)) (rl 0) := hX
  refine G_cast (lv' := [(0, .int x)]) ?_ rfl rfl rfl rfl
  refine G_lconst hX (v := zL 0) (by decide) d_Dg_lowestFirst_0 ?_
  refine G_lstore_n hX (lv' := [(1, .long (zL 0)), (0, .int x)]) rfl (by decide) rfl d_Dg_lowestFirst_1 ?_
  refine G_iconst hX d_Dg_lowestFirst_2 ?_
  refine G_istore_n hX (lv' := [(3, .int (zI 0)), (1, .long (zL 0)), (0, .int x)]) rfl (by decide) rfl d_Dg_lowestFirst_3 ?_
  refine G_iload_n hX 0 rfl rfl d_Dg_lowestFirst_4 ?_
  refine G_iconst hX d_Dg_lowestFirst_5 ?_
  refine G_icmp_ge_z hX (tgt := 32) d_Dg_lowestFirst_6 rfl (by omega) (fun c1 => by exfalso; omega) (fun c2 => ?_)
  refine G_lload_n hX 1 rfl rfl d_Dg_lowestFirst_9 ?_
  refine G_bipush hX (by decide) d_Dg_lowestFirst_10 ?_
  refine G_lshl hX (v := (zL 0) <<< ((zI 8).toInt64 &&& 63)) rfl d_Dg_lowestFirst_12 ?_
  refine G_iload_n hX 2 rfl rfl d_Dg_lowestFirst_13 ?_
  refine G_bipush hX (by decide) d_Dg_lowestFirst_14 ?_
  refine G_iload_n hX 0 rfl rfl d_Dg_lowestFirst_16 ?_
  refine G_imul_z hX d_Dg_lowestFirst_17 ?_
  refine G_iushr hX (v := (x.toUInt32 >>> ((zI (8 * 0)).toUInt32 &&& Int32.toUInt32 31)).toInt32) rfl d_Dg_lowestFirst_18 ?_
  refine G_sipush hX (by decide) d_Dg_lowestFirst_19 ?_
  refine G_iand hX d_Dg_lowestFirst_22 ?_
  refine G_i2l hX (v := ((((x.toUInt32 >>> ((zI (8 * 0)).toUInt32 &&& Int32.toUInt32 31)).toInt32) &&& zI 255)).toInt64) rfl d_Dg_lowestFirst_23 ?_
  refine G_lor hX d_Dg_lowestFirst_24 ?_
  refine G_topl (show (((zL 0) <<< ((zI 8).toInt64 &&& 63)) ||| (((((x.toUInt32 >>> ((zI (8 * 0)).toUInt32 &&& Int32.toUInt32 31)).toInt32) &&& zI 255)).toInt64)) = (lwS (zL 0) x 0) from rfl) ?_
  refine G_lstore_n hX (lv' := [(1, .long (lwS (zL 0) x 0)), (3, .int (zI 0)), (0, .int x)]) rfl (by decide) rfl d_Dg_lowestFirst_25 ?_
  refine G_iinc_z hX (lv' := [(3, .int (zI (0 + 1))), (1, .long (lwS (zL 0) x 0)), (0, .int x)]) 1 rfl (by decide) rfl d_Dg_lowestFirst_26 ?_
  refine G_goto hX (tgt := 4) d_Dg_lowestFirst_29 rfl ?_
  refine G_cast (lv' := [(3, .int (zI 1)), (1, .long (lwS (zL 0) x 0)), (0, .int x)]) ?_ rfl rfl rfl rfl
  refine G_iload_n hX 0 rfl rfl d_Dg_lowestFirst_4 ?_
  refine G_iconst hX d_Dg_lowestFirst_5 ?_
  refine G_icmp_ge_z hX (tgt := 32) d_Dg_lowestFirst_6 rfl (by omega) (fun c3 => by exfalso; omega) (fun c4 => ?_)
  refine G_lload_n hX 1 rfl rfl d_Dg_lowestFirst_9 ?_
  refine G_bipush hX (by decide) d_Dg_lowestFirst_10 ?_
  refine G_lshl hX (v := (lwS (zL 0) x 0) <<< ((zI 8).toInt64 &&& 63)) rfl d_Dg_lowestFirst_12 ?_
  refine G_iload_n hX 2 rfl rfl d_Dg_lowestFirst_13 ?_
  refine G_bipush hX (by decide) d_Dg_lowestFirst_14 ?_
  refine G_iload_n hX 0 rfl rfl d_Dg_lowestFirst_16 ?_
  refine G_imul_z hX d_Dg_lowestFirst_17 ?_
  refine G_iushr hX (v := (x.toUInt32 >>> ((zI (8 * 1)).toUInt32 &&& Int32.toUInt32 31)).toInt32) rfl d_Dg_lowestFirst_18 ?_
  refine G_sipush hX (by decide) d_Dg_lowestFirst_19 ?_
  refine G_iand hX d_Dg_lowestFirst_22 ?_
  refine G_i2l hX (v := ((((x.toUInt32 >>> ((zI (8 * 1)).toUInt32 &&& Int32.toUInt32 31)).toInt32) &&& zI 255)).toInt64) rfl d_Dg_lowestFirst_23 ?_
  refine G_lor hX d_Dg_lowestFirst_24 ?_
  refine G_topl (show (((lwS (zL 0) x 0) <<< ((zI 8).toInt64 &&& 63)) ||| (((((x.toUInt32 >>> ((zI (8 * 1)).toUInt32 &&& Int32.toUInt32 31)).toInt32) &&& zI 255)).toInt64)) = (lwS (lwS (zL 0) x 0) x 1) from rfl) ?_
  refine G_lstore_n hX (lv' := [(1, .long (lwS (lwS (zL 0) x 0) x 1)), (3, .int (zI 1)), (0, .int x)]) rfl (by decide) rfl d_Dg_lowestFirst_25 ?_
  refine G_iinc_z hX (lv' := [(3, .int (zI (1 + 1))), (1, .long (lwS (lwS (zL 0) x 0) x 1)), (0, .int x)]) 1 rfl (by decide) rfl d_Dg_lowestFirst_26 ?_
  refine G_goto hX (tgt := 4) d_Dg_lowestFirst_29 rfl ?_
  refine G_cast (lv' := [(3, .int (zI 2)), (1, .long (lwS (lwS (zL 0) x 0) x 1)), (0, .int x)]) ?_ rfl rfl rfl rfl
  refine G_iload_n hX 0 rfl rfl d_Dg_lowestFirst_4 ?_
  refine G_iconst hX d_Dg_lowestFirst_5 ?_
  refine G_icmp_ge_z hX (tgt := 32) d_Dg_lowestFirst_6 rfl (by omega) (fun c5 => by exfalso; omega) (fun c6 => ?_)
  refine G_lload_n hX 1 rfl rfl d_Dg_lowestFirst_9 ?_
  refine G_bipush hX (by decide) d_Dg_lowestFirst_10 ?_
  refine G_lshl hX (v := (lwS (lwS (zL 0) x 0) x 1) <<< ((zI 8).toInt64 &&& 63)) rfl d_Dg_lowestFirst_12 ?_
  refine G_iload_n hX 2 rfl rfl d_Dg_lowestFirst_13 ?_
  refine G_bipush hX (by decide) d_Dg_lowestFirst_14 ?_
  refine G_iload_n hX 0 rfl rfl d_Dg_lowestFirst_16 ?_
  refine G_imul_z hX d_Dg_lowestFirst_17 ?_
  refine G_iushr hX (v := (x.toUInt32 >>> ((zI (8 * 2)).toUInt32 &&& Int32.toUInt32 31)).toInt32) rfl d_Dg_lowestFirst_18 ?_
  refine G_sipush hX (by decide) d_Dg_lowestFirst_19 ?_
  refine G_iand hX d_Dg_lowestFirst_22 ?_
  refine G_i2l hX (v := ((((x.toUInt32 >>> ((zI (8 * 2)).toUInt32 &&& Int32.toUInt32 31)).toInt32) &&& zI 255)).toInt64) rfl d_Dg_lowestFirst_23 ?_
  refine G_lor hX d_Dg_lowestFirst_24 ?_
  refine G_topl (show (((lwS (lwS (zL 0) x 0) x 1) <<< ((zI 8).toInt64 &&& 63)) ||| (((((x.toUInt32 >>> ((zI (8 * 2)).toUInt32 &&& Int32.toUInt32 31)).toInt32) &&& zI 255)).toInt64)) = (lwS (lwS (lwS (zL 0) x 0) x 1) x 2) from rfl) ?_
  refine G_lstore_n hX (lv' := [(1, .long (lwS (lwS (lwS (zL 0) x 0) x 1) x 2)), (3, .int (zI 2)), (0, .int x)]) rfl (by decide) rfl d_Dg_lowestFirst_25 ?_
  refine G_iinc_z hX (lv' := [(3, .int (zI (2 + 1))), (1, .long (lwS (lwS (lwS (zL 0) x 0) x 1) x 2)), (0, .int x)]) 1 rfl (by decide) rfl d_Dg_lowestFirst_26 ?_
  refine G_goto hX (tgt := 4) d_Dg_lowestFirst_29 rfl ?_
  refine G_cast (lv' := [(3, .int (zI 3)), (1, .long (lwS (lwS (lwS (zL 0) x 0) x 1) x 2)), (0, .int x)]) ?_ rfl rfl rfl rfl
  refine G_iload_n hX 0 rfl rfl d_Dg_lowestFirst_4 ?_
  refine G_iconst hX d_Dg_lowestFirst_5 ?_
  refine G_icmp_ge_z hX (tgt := 32) d_Dg_lowestFirst_6 rfl (by omega) (fun c7 => by exfalso; omega) (fun c8 => ?_)
  refine G_lload_n hX 1 rfl rfl d_Dg_lowestFirst_9 ?_
  refine G_bipush hX (by decide) d_Dg_lowestFirst_10 ?_
  refine G_lshl hX (v := (lwS (lwS (lwS (zL 0) x 0) x 1) x 2) <<< ((zI 8).toInt64 &&& 63)) rfl d_Dg_lowestFirst_12 ?_
  refine G_iload_n hX 2 rfl rfl d_Dg_lowestFirst_13 ?_
  refine G_bipush hX (by decide) d_Dg_lowestFirst_14 ?_
  refine G_iload_n hX 0 rfl rfl d_Dg_lowestFirst_16 ?_
  refine G_imul_z hX d_Dg_lowestFirst_17 ?_
  refine G_iushr hX (v := (x.toUInt32 >>> ((zI (8 * 3)).toUInt32 &&& Int32.toUInt32 31)).toInt32) rfl d_Dg_lowestFirst_18 ?_
  refine G_sipush hX (by decide) d_Dg_lowestFirst_19 ?_
  refine G_iand hX d_Dg_lowestFirst_22 ?_
  refine G_i2l hX (v := ((((x.toUInt32 >>> ((zI (8 * 3)).toUInt32 &&& Int32.toUInt32 31)).toInt32) &&& zI 255)).toInt64) rfl d_Dg_lowestFirst_23 ?_
  refine G_lor hX d_Dg_lowestFirst_24 ?_
  refine G_topl (show (((lwS (lwS (lwS (zL 0) x 0) x 1) x 2) <<< ((zI 8).toInt64 &&& 63)) ||| (((((x.toUInt32 >>> ((zI (8 * 3)).toUInt32 &&& Int32.toUInt32 31)).toInt32) &&& zI 255)).toInt64)) = (lwS (lwS (lwS (lwS (zL 0) x 0) x 1) x 2) x 3) from rfl) ?_
  refine G_lstore_n hX (lv' := [(1, .long (lwS (lwS (lwS (lwS (zL 0) x 0) x 1) x 2) x 3)), (3, .int (zI 3)), (0, .int x)]) rfl (by decide) rfl d_Dg_lowestFirst_25 ?_
  refine G_iinc_z hX (lv' := [(3, .int (zI (3 + 1))), (1, .long (lwS (lwS (lwS (lwS (zL 0) x 0) x 1) x 2) x 3)), (0, .int x)]) 1 rfl (by decide) rfl d_Dg_lowestFirst_26 ?_
  refine G_goto hX (tgt := 4) d_Dg_lowestFirst_29 rfl ?_
  refine G_cast (lv' := [(3, .int (zI 4)), (1, .long (lwS (lwS (lwS (lwS (zL 0) x 0) x 1) x 2) x 3)), (0, .int x)]) ?_ rfl rfl rfl rfl
  refine G_iload_n hX 0 rfl rfl d_Dg_lowestFirst_4 ?_
  refine G_iconst hX d_Dg_lowestFirst_5 ?_
  refine G_icmp_ge_z hX (tgt := 32) d_Dg_lowestFirst_6 rfl (by omega) (fun c9 => ?_) (fun c10 => by exfalso; omega)
  refine G_lload_n hX 1 rfl rfl d_Dg_lowestFirst_32 ?_
  exact F_lret hX hE d_Dg_lowestFirst_33 ⟨rfl, rfl⟩
theorem c_Dg_firstHalf (E : EV) (f : Nat → va_E) (i a b : Nat) (s : S4) (wd : Nat → Int32) (hi : i < NC) (ha : a < NC) (hb : b < NC) (hia : i ≠ a) (hib : i ≠ b) (hab : a ≠ b) (hD : isD E f i a b (m4 s) wd) : CF yn_Dg_firstHalf cd_Dg_firstHalf 1 (some (.long)) 1 E [.ref (eA E i)] f (fun r f' => r = some (.long (hfF (s.1) (s.2.1))) ∧ f' = f) := by
  refine CF.of (by decide +kernel) (Nat.le_of_ble_eq_true rfl) fun X hX hE => ?_
  have hX : Ok E X "DeltaFerry$Digester" "firstHalf" cd_Dg_firstHalf 1 (some (.long)) (rl 1) := hX
  refine G_cast (lv' := [(0, .ref (eA E i))]) ?_ rfl rfl rfl rfl
  refine G_aload_n hX 0 rfl rfl d_Dg_firstHalf_0 ?_
  refine F_get hX fg_Dg_7 d_Dg_firstHalf_1 i hi hD.1 rfl ?_
  refine G_iconst hX d_Dg_firstHalf_4 ?_
  refine F_iald_r hX d_Dg_firstHalf_5 a ha hD.2.1 (by omega) ?_
  refine G_top (show ((m4 s) (0 : Int).toNat) = s.1 from rfl) ?_
  refine F_callS hX (st := []) (c_Dg_lowestFirst E f s.1) cm_Dg_lowestFirst sm_Dg_lowestFirst ml_Dg_29 d_Dg_firstHalf_6 rfl rfl (Nat.le_of_ble_eq_true rfl) (by decide) ?_
  rintro _ f1 ⟨rfl, e4⟩
  obtain rfl := e4.symm
  refine G_cast (st' := [.long (lwF s.1)]) ?_ rfl rfl rfl rfl
  refine G_bipush hX (by decide) d_Dg_firstHalf_9 ?_
  refine G_lshl hX (v := (lwF s.1) <<< ((zI 32).toInt64 &&& 63)) rfl d_Dg_firstHalf_11 ?_
  refine G_aload_n hX 0 rfl rfl d_Dg_firstHalf_12 ?_
  refine F_get hX fg_Dg_7 d_Dg_firstHalf_13 i hi hD.1 rfl ?_
  refine G_iconst hX d_Dg_firstHalf_16 ?_
  refine F_iald_r hX d_Dg_firstHalf_17 a ha hD.2.1 (by omega) ?_
  refine G_top (show ((m4 s) (1 : Int).toNat) = s.2.1 from rfl) ?_
  refine F_callS hX (st := [.long ((lwF s.1) <<< ((zI 32).toInt64 &&& 63))]) (c_Dg_lowestFirst E f s.2.1) cm_Dg_lowestFirst sm_Dg_lowestFirst ml_Dg_29 d_Dg_firstHalf_18 rfl rfl (Nat.le_of_ble_eq_true rfl) (by decide) ?_
  rintro _ f5 ⟨rfl, e8⟩
  obtain rfl := e8.symm
  refine G_cast (st' := [.long (lwF s.2.1), .long ((lwF s.1) <<< ((zI 32).toInt64 &&& 63))]) ?_ rfl rfl rfl rfl
  refine G_lor hX d_Dg_firstHalf_21 ?_
  exact F_lret hX hE d_Dg_firstHalf_22 ⟨rfl, rfl⟩
theorem c_Dg_lastHalf (E : EV) (f : Nat → va_E) (i a b : Nat) (s : S4) (wd : Nat → Int32) (hi : i < NC) (ha : a < NC) (hb : b < NC) (hia : i ≠ a) (hib : i ≠ b) (hab : a ≠ b) (hD : isD E f i a b (m4 s) wd) : CF yn_Dg_lastHalf cd_Dg_lastHalf 1 (some (.long)) 1 E [.ref (eA E i)] f (fun r f' => r = some (.long (hfF (s.2.2.1) (s.2.2.2))) ∧ f' = f) := by
  refine CF.of (by decide +kernel) (Nat.le_of_ble_eq_true rfl) fun X hX hE => ?_
  have hX : Ok E X "DeltaFerry$Digester" "lastHalf" cd_Dg_lastHalf 1 (some (.long)) (rl 1) := hX
  refine G_cast (lv' := [(0, .ref (eA E i))]) ?_ rfl rfl rfl rfl
  refine G_aload_n hX 0 rfl rfl d_Dg_lastHalf_0 ?_
  refine F_get hX fg_Dg_7 d_Dg_lastHalf_1 i hi hD.1 rfl ?_
  refine G_iconst hX d_Dg_lastHalf_4 ?_
  refine F_iald_r hX d_Dg_lastHalf_5 a ha hD.2.1 (by omega) ?_
  refine G_top (show ((m4 s) (2 : Int).toNat) = s.2.2.1 from rfl) ?_
  refine F_callS hX (st := []) (c_Dg_lowestFirst E f s.2.2.1) cm_Dg_lowestFirst sm_Dg_lowestFirst ml_Dg_29 d_Dg_lastHalf_6 rfl rfl (Nat.le_of_ble_eq_true rfl) (by decide) ?_
  rintro _ f1 ⟨rfl, e4⟩
  obtain rfl := e4.symm
  refine G_cast (st' := [.long (lwF s.2.2.1)]) ?_ rfl rfl rfl rfl
  refine G_bipush hX (by decide) d_Dg_lastHalf_9 ?_
  refine G_lshl hX (v := (lwF s.2.2.1) <<< ((zI 32).toInt64 &&& 63)) rfl d_Dg_lastHalf_11 ?_
  refine G_aload_n hX 0 rfl rfl d_Dg_lastHalf_12 ?_
  refine F_get hX fg_Dg_7 d_Dg_lastHalf_13 i hi hD.1 rfl ?_
  refine G_iconst hX d_Dg_lastHalf_16 ?_
  refine F_iald_r hX d_Dg_lastHalf_17 a ha hD.2.1 (by omega) ?_
  refine G_top (show ((m4 s) (3 : Int).toNat) = s.2.2.2 from rfl) ?_
  refine F_callS hX (st := [.long ((lwF s.2.2.1) <<< ((zI 32).toInt64 &&& 63))]) (c_Dg_lowestFirst E f s.2.2.2) cm_Dg_lowestFirst sm_Dg_lowestFirst ml_Dg_29 d_Dg_lastHalf_18 rfl rfl (Nat.le_of_ble_eq_true rfl) (by decide) ?_
  rintro _ f5 ⟨rfl, e8⟩
  obtain rfl := e8.symm
  refine G_cast (st' := [.long (lwF s.2.2.2), .long ((lwF s.2.2.1) <<< ((zI 32).toInt64 &&& 63))]) ?_ rfl rfl rfl rfl
  refine G_lor hX d_Dg_lastHalf_21 ?_
  exact F_lret hX hE d_Dg_lastHalf_22 ⟨rfl, rfl⟩
theorem c_Dg_take (E : EV) (f : Nat → va_E) (i a b : Nat) (s0 wd : Nat → Int32) (j nn : Nat) (g : Int → Int) (p m : Int) (hi : i < NC) (ha : a < NC) (hb : b < NC) (hia : i ≠ a) (hib : i ≠ b) (hab : a ≠ b) (hj : j < NC) (hij : i ≠ j) (haj : a ≠ j) (hbj : b ≠ j) (hD : isD E f i a b s0 wd) (hg : f j = iz E nn g) (hx : 0 ≤ p ∧ 0 ≤ m ∧ p + m ≤ nn ∧ nn ≤ 2000) : CF yn_Dg_take cd_Dg_take 8 none 2 E [.ref (eA E i), .ref (eA E j), .int (zI p), .int (zI m)] f (fun r f' => r = none ∧ (∃ wd', isD E f' i a b (m4 (m5D g p m)) wd') ∧ Fr [a, b] f f') := by
  refine CF.of (by decide +kernel) (Nat.le_of_ble_eq_true rfl) fun X hX hE => ?_
  have hX : Ok E X "DeltaFerry$Digester" "take" cd_Dg_take 8 none (rl 2) := hX
  refine G_cast (lv' := [(0, .ref (eA E i)), (1, .ref (eA E j)), (2, .int (zI p)), (3, .int (zI m))]) ?_ rfl rfl rfl rfl
  refine G_aload_n hX 0 rfl rfl d_Dg_take_0 ?_
  refine F_get hX fg_Dg_7 d_Dg_take_1 i hi hD.1 rfl ?_
  refine G_iconst hX d_Dg_take_4 ?_
  refine G_ldc hX kn_Dg_16 d_Dg_take_5 ?_
  refine G_top (show (1732584193 : Int32) = zI (1732584193) from kc_Dg_16) ?_
  refine F_iast_r hX d_Dg_take_7 a ha hD.2.1 (by omega) (fun f1 h2 k3 => ?_)
  refine G_aload_n hX 0 rfl rfl d_Dg_take_8 ?_
  have h4 : f1 i = ob 2 [.ref (eA E a), .ref (eA E b)] := (k3 i (by simp only [List.mem_cons, List.not_mem_nil, or_false]; omega)).trans hD.1
  refine F_get hX fg_Dg_7 d_Dg_take_9 i hi h4 rfl ?_
  refine G_iconst hX d_Dg_take_12 ?_
  refine G_ldc hX kn_Dg_17 d_Dg_take_13 ?_
  refine G_top (show (-271733879 : Int32) = zI (-271733879) from kc_Dg_17) ?_
  refine F_iast_r hX d_Dg_take_15 a ha h2 (by omega) (fun f5 h6 k7 => ?_)
  refine G_aload_n hX 0 rfl rfl d_Dg_take_16 ?_
  have h8 : f5 i = ob 2 [.ref (eA E a), .ref (eA E b)] := (k7 i (by simp only [List.mem_cons, List.not_mem_nil, or_false]; omega)).trans h4
  refine F_get hX fg_Dg_7 d_Dg_take_17 i hi h8 rfl ?_
  refine G_iconst hX d_Dg_take_20 ?_
  refine G_ldc hX kn_Dg_18 d_Dg_take_21 ?_
  refine G_top (show (-1732584194 : Int32) = zI (-1732584194) from kc_Dg_18) ?_
  refine F_iast_r hX d_Dg_take_23 a ha h6 (by omega) (fun f9 h10 k11 => ?_)
  refine G_aload_n hX 0 rfl rfl d_Dg_take_24 ?_
  have h12 : f9 i = ob 2 [.ref (eA E a), .ref (eA E b)] := (k11 i (by simp only [List.mem_cons, List.not_mem_nil, or_false]; omega)).trans h8
  refine F_get hX fg_Dg_7 d_Dg_take_25 i hi h12 rfl ?_
  refine G_iconst hX d_Dg_take_28 ?_
  refine G_ldc hX kn_Dg_19 d_Dg_take_29 ?_
  refine G_top (show (271733878 : Int32) = zI (271733878) from kc_Dg_19) ?_
  refine F_iast_r hX d_Dg_take_31 a ha h10 (by omega) (fun f13 h14 k15 => ?_)
  refine F_nrm a (m4 m5I) ha h14 ?_ (fun f16 h17 k18 => ?_)
  · exact m4_n s0 _ _ _ _
  refine G_iload_n hX 3 rfl rfl d_Dg_take_32 ?_
  refine G_bipush hX (by decide) d_Dg_take_33 ?_
  refine G_iadd_z hX d_Dg_take_35 ?_
  refine G_bipush hX (by decide) d_Dg_take_36 ?_
  refine G_idiv_z hX (by omega) d_Dg_take_38 ?_
  refine G_iconst hX d_Dg_take_39 ?_
  refine G_iadd_z hX d_Dg_take_40 ?_
  refine G_bipush hX (by decide) d_Dg_take_41 ?_
  refine G_imul_z hX d_Dg_take_43 ?_
  refine G_istore hX (lv' := [(4, .int (zI ((((m + 8) / 64) + 1) * 64))), (0, .ref (eA E i)), (1, .ref (eA E j)), (2, .int (zI p)), (3, .int (zI m))]) (by decide) rfl d_Dg_take_44 ?_
  refine G_iconst hX d_Dg_take_46 ?_
  refine G_istore hX (lv' := [(5, .int (zI 0)), (4, .int (zI ((((m + 8) / 64) + 1) * 64))), (0, .ref (eA E i)), (1, .ref (eA E j)), (2, .int (zI p)), (3, .int (zI m))]) (by decide) rfl d_Dg_take_47 ?_
  have loop19 : ∀ (q : Nat) (kb : Int) (wd1 : Nat → Int32) (f20 : Nat → va_E), ((m + 8) / 64 + 1 - kb).toNat < q → 0 ≤ kb ∧ kb ≤ (m + 8) / 64 + 1 → f20 a = ia E 4 (m4 (m5T g p m kb.toNat)) → f20 b = ia E 16 wd1 → Fr [a, b] f16 f20 → G E X 0 0 49 [(0, .ref (eA E i)), (1, .ref (eA E j)), (2, .int (zI p)), (3, .int (zI m)), (4, .int (zI (((m + 8) / 64 + 1) * 64))), (5, .int (zI (64 * kb)))] [] (wl E f20) := by
    intro q
    induction q with
    | zero => intro kb wd1 f20 hms22; exact absurd hms22 (Nat.not_lt_zero _)
    | succ q ih23 =>
      intro kb wd1 f20 hms22 hkb h24 h25 k21
      refine G_iload hX 5 rfl d_Dg_take_49 ?_
      refine G_iload hX 4 rfl d_Dg_take_51 ?_
      refine G_icmp_ge_z hX (tgt := 168) d_Dg_take_53 rfl (by omega) (fun c26 => ?_) (fun c27 => ?_)
      · skip
        have h28 : f20 i = ob 2 [.ref (eA E a), .ref (eA E b)] := (k21 i (by simp only [List.mem_cons, List.not_mem_nil, or_false]; omega)).trans ((k18 i (by simp only [List.mem_cons, List.not_mem_nil, or_false]; omega)).trans ((k15 i (by simp only [List.mem_cons, List.not_mem_nil, or_false]; omega)).trans h12))
        have ek : kb.toNat = ((m + 8) / 64 + 1).toNat := by omega
        rw [ek] at h24
        exact F_vret hX hE d_Dg_take_168 ⟨rfl, ⟨_, h28, h24, h25⟩, (Fr.tr (Fr.tr (Fr.tr (Fr.tr (Fr.tr (Fr.tr Fr.rf k3 (by simp)) k7 (by simp)) k11 (by simp)) k15 (by simp)) k18 (by simp)) k21 (by simp))⟩
      · skip
        refine G_aload_n hX 0 rfl rfl d_Dg_take_56 ?_
        have h29 : f20 i = ob 2 [.ref (eA E a), .ref (eA E b)] := (k21 i (by simp only [List.mem_cons, List.not_mem_nil, or_false]; omega)).trans ((k18 i (by simp only [List.mem_cons, List.not_mem_nil, or_false]; omega)).trans ((k15 i (by simp only [List.mem_cons, List.not_mem_nil, or_false]; omega)).trans h12))
        refine F_get hX fg_Dg_13 d_Dg_take_57 i hi h29 rfl ?_
        refine G_iconst hX d_Dg_take_60 ?_
        refine F_callS hX (c_fill E f20 b 16 wd1 (zI 0) hb h25 (by omega)) cm_fill kw_st_Arrays ml_Dg_20 d_Dg_take_61 rfl rfl (Nat.le_of_ble_eq_true rfl) (by decide) ?_
        rintro _ f30 ⟨rfl, h33, k34⟩
        refine G_cast (st' := []) ?_ rfl rfl rfl rfl
        refine F_nrm b (wbL g p m (64 * kb) 0) hb h33 ?_ (fun f35 h36 k37 => ?_)
        · intro q hq; show (if q < 16 then zI 0 else _) = zI 0; rw [if_pos hq]
        refine G_iconst hX d_Dg_take_64 ?_
        refine G_istore hX (lv' := [(6, .int (zI 0)), (0, .ref (eA E i)), (1, .ref (eA E j)), (2, .int (zI p)), (3, .int (zI m)), (4, .int (zI (((m + 8) / 64 + 1) * 64))), (5, .int (zI (64 * kb)))]) (by decide) rfl d_Dg_take_65 ?_
        have join38 : ∀ (t : Int) (f39 : Nat → va_E), (0 ≤ t ∧ t.toNat = (nit m (64 * kb)).toNat) → f39 b = ia E 16 (wbL g p m (64 * kb) t.toNat) → Fr [b] f35 f39 → G E X 0 0 137 [(0, .ref (eA E i)), (1, .ref (eA E j)), (2, .int (zI p)), (3, .int (zI m)), (4, .int (zI (((m + 8) / 64 + 1) * 64))), (5, .int (zI (64 * kb)))] [] (wl E f39) := by
          intro t f39 ht h41 k40
          refine G_iload hX 5 rfl d_Dg_take_137 ?_
          refine G_bipush hX (by decide) d_Dg_take_139 ?_
          refine G_iadd_z hX d_Dg_take_141 ?_
          refine G_iload hX 4 rfl d_Dg_take_142 ?_
          refine G_icmp_ne_z hX (tgt := 158) d_Dg_take_144 rfl (by omega) (fun c42 => ?_) (fun c43 => ?_)
          · skip
            have ewb : wbL g p m (64 * kb) t.toNat = wbF g p m (64 * kb) := by unfold wbF pdF; rw [ht.2, if_neg (by omega)]
            rw [ewb] at h41
            refine G_aload_n hX 0 rfl rfl d_Dg_take_158 ?_
            have h47 : f39 i = ob 2 [.ref (eA E a), .ref (eA E b)] := (k40 i (by simp only [List.mem_cons, List.not_mem_nil, or_false]; omega)).trans ((k37 i (by simp only [List.mem_cons, List.not_mem_nil, or_false]; omega)).trans ((k34 i (by simp only [List.mem_cons, List.not_mem_nil, or_false]; omega)).trans h29))
            have h48 : f39 a = ia E 4 (m4 (m5T g p m kb.toNat)) := (k40 a (by simp only [List.mem_cons, List.not_mem_nil, or_false]; omega)).trans ((k37 a (by simp only [List.mem_cons, List.not_mem_nil, or_false]; omega)).trans ((k34 a (by simp only [List.mem_cons, List.not_mem_nil, or_false]; omega)).trans h24))
            refine F_callV hX (st := []) (c_Dg_mixWords E f39 i a b (m5T g p m kb.toNat) (wbF g p m (64 * kb)) hi ha hb (by omega) (by omega) (by omega) ⟨h47, h48, h41⟩) cm_Dg_mixWords im_Dg_mixWords se_Dg_mixWords rfl ml_Dg_26 d_Dg_take_159 hi h47 rfl rfl (Nat.le_of_ble_eq_true rfl) (by decide) ?_
            rintro _ f49 ⟨rfl, ⟨h52, h53, h54⟩, k55⟩
            refine G_cast (st' := []) ?_ rfl rfl rfl rfl
            refine G_iinc_z hX (lv' := [(5, .int (zI ((64 * kb) + 64))), (0, .ref (eA E i)), (1, .ref (eA E j)), (2, .int (zI p)), (3, .int (zI m)), (4, .int (zI (((m + 8) / 64 + 1) * 64)))]) 5 rfl (by decide) rfl d_Dg_take_162 ?_
            refine G_goto hX (tgt := 49) d_Dg_take_165 rfl ?_
            refine G_loc (lv' := [(0, .ref (eA E i)), (1, .ref (eA E j)), (2, .int (zI p)), (3, .int (zI m)), (4, .int (zI (((m + 8) / 64 + 1) * 64))), (5, .int (zI ((64 * kb) + 64)))]) [1, 2, 3, 4, 5, 0] rfl ?_
            refine G_cast (ih23 (kb + 1) (wbF g p m (64 * kb)) f49 (by omega) (by omega) (by rw [m5T_s hkb.1]; exact h53) h54 (Fr.tr (Fr.tr (Fr.tr (Fr.tr (Fr.tr Fr.rf k21 (by simp)) k34 (by simp)) k37 (by simp)) k40 (by simp)) k55 (by simp))) rfl (by rw [show 64 * (kb + 1) = 64 * kb + 64 by omega]) rfl rfl
          · skip
            refine G_aload_n hX 0 rfl rfl d_Dg_take_147 ?_
            have h56 : f39 i = ob 2 [.ref (eA E a), .ref (eA E b)] := (k40 i (by simp only [List.mem_cons, List.not_mem_nil, or_false]; omega)).trans ((k37 i (by simp only [List.mem_cons, List.not_mem_nil, or_false]; omega)).trans ((k34 i (by simp only [List.mem_cons, List.not_mem_nil, or_false]; omega)).trans h29))
            refine F_get hX fg_Dg_13 d_Dg_take_148 i hi h56 rfl ?_
            refine G_bipush hX (by decide) d_Dg_take_151 ?_
            refine G_bipush hX (by decide) d_Dg_take_153 ?_
            refine G_iload_n hX 3 rfl rfl d_Dg_take_155 ?_
            refine G_imul_z hX d_Dg_take_156 ?_
            refine F_iast_r hX d_Dg_take_157 b hb h41 (by omega) (fun f57 h58 k59 => ?_)
            have ewb : upd (wbL g p m (64 * kb) t.toNat) (14 : Int).toNat (zI (8 * m)) = wbF g p m (64 * kb) := by unfold wbF pdF; rw [ht.2, if_pos (by omega)]; rfl
            rw [ewb] at h58
            refine G_aload_n hX 0 rfl rfl d_Dg_take_158 ?_
            have h63 : f57 i = ob 2 [.ref (eA E a), .ref (eA E b)] := (k59 i (by simp only [List.mem_cons, List.not_mem_nil, or_false]; omega)).trans h56
            have h64 : f57 a = ia E 4 (m4 (m5T g p m kb.toNat)) := (k59 a (by simp only [List.mem_cons, List.not_mem_nil, or_false]; omega)).trans ((k40 a (by simp only [List.mem_cons, List.not_mem_nil, or_false]; omega)).trans ((k37 a (by simp only [List.mem_cons, List.not_mem_nil, or_false]; omega)).trans ((k34 a (by simp only [List.mem_cons, List.not_mem_nil, or_false]; omega)).trans h24)))
            refine F_callV hX (st := []) (c_Dg_mixWords E f57 i a b (m5T g p m kb.toNat) (wbF g p m (64 * kb)) hi ha hb (by omega) (by omega) (by omega) ⟨h63, h64, h58⟩) cm_Dg_mixWords im_Dg_mixWords se_Dg_mixWords rfl ml_Dg_26 d_Dg_take_159 hi h63 rfl rfl (Nat.le_of_ble_eq_true rfl) (by decide) ?_
            rintro _ f65 ⟨rfl, ⟨h68, h69, h70⟩, k71⟩
            refine G_cast (st' := []) ?_ rfl rfl rfl rfl
            refine G_iinc_z hX (lv' := [(5, .int (zI ((64 * kb) + 64))), (0, .ref (eA E i)), (1, .ref (eA E j)), (2, .int (zI p)), (3, .int (zI m)), (4, .int (zI (((m + 8) / 64 + 1) * 64)))]) 5 rfl (by decide) rfl d_Dg_take_162 ?_
            refine G_goto hX (tgt := 49) d_Dg_take_165 rfl ?_
            refine G_loc (lv' := [(0, .ref (eA E i)), (1, .ref (eA E j)), (2, .int (zI p)), (3, .int (zI m)), (4, .int (zI (((m + 8) / 64 + 1) * 64))), (5, .int (zI ((64 * kb) + 64)))]) [1, 2, 3, 4, 5, 0] rfl ?_
            refine G_cast (ih23 (kb + 1) (wbF g p m (64 * kb)) f65 (by omega) (by omega) (by rw [m5T_s hkb.1]; exact h69) h70 (Fr.tr (Fr.tr (Fr.tr (Fr.tr (Fr.tr (Fr.tr Fr.rf k21 (by simp)) k34 (by simp)) k37 (by simp)) k40 (by simp)) k59 (by simp)) k71 (by simp))) rfl (by rw [show 64 * (kb + 1) = 64 * kb + 64 by omega]) rfl rfl
        have loop72 : ∀ (q : Nat) (t : Int) (f73 : Nat → va_E), (64 - t).toNat < q → 0 ≤ t ∧ t ≤ 64 ∧ (t = 0 ∨ 64 * kb + t ≤ m + 1) → f73 b = ia E 16 (wbL g p m (64 * kb) t.toNat) → Fr [b] f35 f73 → G E X 0 0 67 [(0, .ref (eA E i)), (1, .ref (eA E j)), (2, .int (zI p)), (3, .int (zI m)), (4, .int (zI (((m + 8) / 64 + 1) * 64))), (5, .int (zI (64 * kb))), (6, .int (zI t))] [] (wl E f73) := by
          intro q
          induction q with
          | zero => intro t f73 hms75; exact absurd hms75 (Nat.not_lt_zero _)
          | succ q ih76 =>
            intro t f73 hms75 ht h77 k74
            refine G_iload hX 6 rfl d_Dg_take_67 ?_
            refine G_bipush hX (by decide) d_Dg_take_69 ?_
            refine G_icmp_ge_z hX (tgt := 137) d_Dg_take_71 rfl (by omega) (fun c78 => ?_) (fun c79 => ?_)
            · skip
              refine G_loc (lv' := [(0, .ref (eA E i)), (1, .ref (eA E j)), (2, .int (zI p)), (3, .int (zI m)), (4, .int (zI (((m + 8) / 64 + 1) * 64))), (5, .int (zI (64 * kb)))]) [0, 1, 2, 3, 4, 5] rfl ?_
              exact join38 t f73  ⟨by omega, by unfold nit; (repeat (first | omega | split))⟩ h77 (Fr.tr Fr.rf k74 (by simp))
            · skip
              refine G_iload hX 5 rfl d_Dg_take_74 ?_
              refine G_iload hX 6 rfl d_Dg_take_76 ?_
              refine G_iadd_z hX d_Dg_take_78 ?_
              refine G_iload_n hX 3 rfl rfl d_Dg_take_79 ?_
              refine G_icmp_gt_z hX (tgt := 137) d_Dg_take_80 rfl (by omega) (fun c80 => ?_) (fun c81 => ?_)
              · skip
                refine G_loc (lv' := [(0, .ref (eA E i)), (1, .ref (eA E j)), (2, .int (zI p)), (3, .int (zI m)), (4, .int (zI (((m + 8) / 64 + 1) * 64))), (5, .int (zI (64 * kb)))]) [0, 1, 2, 3, 4, 5] rfl ?_
                exact join38 t f73  ⟨by omega, by unfold nit; (repeat (first | omega | split))⟩ h77 (Fr.tr Fr.rf k74 (by simp))
              · skip
                by_cases hlt : 64 * kb + t < m
                · skip
                  refine G_iload hX 5 rfl d_Dg_take_83 ?_
                  refine G_iload hX 6 rfl d_Dg_take_85 ?_
                  refine G_iadd_z hX d_Dg_take_87 ?_
                  refine G_iload_n hX 3 rfl rfl d_Dg_take_88 ?_
                  refine G_icmp_ge_z hX (tgt := 104) d_Dg_take_89 rfl (by omega) (fun c82 => by exfalso; omega) (fun c83 => ?_)
                  refine G_aload_n hX 1 rfl rfl d_Dg_take_92 ?_
                  refine G_iload_n hX 2 rfl rfl d_Dg_take_93 ?_
                  refine G_iload hX 5 rfl d_Dg_take_94 ?_
                  refine G_iadd_z hX d_Dg_take_96 ?_
                  refine G_iload hX 6 rfl d_Dg_take_97 ?_
                  refine G_iadd_z hX d_Dg_take_99 ?_
                  have h84 : f73 j = iz E nn g := (k74 j (by simp only [List.mem_cons, List.not_mem_nil, or_false]; omega)).trans ((k37 j (by simp only [List.mem_cons, List.not_mem_nil, or_false]; omega)).trans ((k34 j (by simp only [List.mem_cons, List.not_mem_nil, or_false]; omega)).trans ((k21 j (by simp only [List.mem_cons, List.not_mem_nil, or_false]; omega)).trans ((k18 j (by simp only [List.mem_cons, List.not_mem_nil, or_false]; omega)).trans ((k15 j (by simp only [List.mem_cons, List.not_mem_nil, or_false]; omega)).trans ((k11 j (by simp only [List.mem_cons, List.not_mem_nil, or_false]; omega)).trans ((k7 j (by simp only [List.mem_cons, List.not_mem_nil, or_false]; omega)).trans ((k3 j (by simp only [List.mem_cons, List.not_mem_nil, or_false]; omega)).trans hg))))))))
                  refine F_iald hX d_Dg_take_100 j hj h84 (by omega) ?_
                  refine G_goto hX (tgt := 107) d_Dg_take_101 rfl ?_
                  refine G_istore hX (lv' := [(7, .int (zI (g ((p + (64 * kb)) + t)))), (0, .ref (eA E i)), (1, .ref (eA E j)), (2, .int (zI p)), (3, .int (zI m)), (4, .int (zI (((m + 8) / 64 + 1) * 64))), (5, .int (zI (64 * kb))), (6, .int (zI t))]) (by decide) rfl d_Dg_take_107 ?_
                  refine G_aload_n hX 1 rfl rfl d_Dg_take_109 ?_
                  have h85 : f73 i = ob 2 [.ref (eA E a), .ref (eA E b)] := (k74 i (by simp only [List.mem_cons, List.not_mem_nil, or_false]; omega)).trans ((k37 i (by simp only [List.mem_cons, List.not_mem_nil, or_false]; omega)).trans ((k34 i (by simp only [List.mem_cons, List.not_mem_nil, or_false]; omega)).trans h29))
                  refine F_get hX fg_Dg_13 d_Dg_take_110 i hi h85 rfl ?_
                  refine G_iload hX 7 rfl d_Dg_take_113 ?_
                  refine G_iconst hX d_Dg_take_115 ?_
                  refine G_idiv_z hX (by omega) d_Dg_take_116 ?_
                  refine G_dup2 hX rfl rfl d_Dg_take_117 ?_
                  refine F_iald_r hX d_Dg_take_118 b hb h77 (by omega) ?_
                  refine G_iload hX 0 rfl d_Dg_take_119 ?_
                  refine G_bipush hX (by decide) d_Dg_take_121 ?_
                  refine G_iload hX 7 rfl d_Dg_take_123 ?_
                  refine G_iconst hX d_Dg_take_125 ?_
                  refine G_irem_z hX (by omega) d_Dg_take_126 ?_
                  refine G_imul_z hX d_Dg_take_127 ?_
                  refine G_ishl hX d_Dg_take_128 ?_
                  refine G_ior hX d_Dg_take_129 ?_
                  refine F_iast_r hX d_Dg_take_130 b hb h77 (by omega) (fun f86 h87 k88 => ?_)
                  refine G_iinc_z hX (lv' := [(6, .int (zI (t + 1))), (7, .int (zI (g ((p + (64 * kb)) + t)))), (0, .ref (eA E i)), (1, .ref (eA E j)), (2, .int (zI p)), (3, .int (zI m)), (4, .int (zI (((m + 8) / 64 + 1) * 64))), (5, .int (zI (64 * kb)))]) 7 rfl (by decide) rfl d_Dg_take_131 ?_
                  refine G_goto hX (tgt := 67) d_Dg_take_134 rfl ?_
                  refine G_loc (lv' := [(0, .ref (eA E i)), (1, .ref (eA E j)), (2, .int (zI p)), (3, .int (zI m)), (4, .int (zI (((m + 8) / 64 + 1) * 64))), (5, .int (zI (64 * kb))), (6, .int (zI (t + 1)))]) [2, 3, 4, 5, 6, 7, 0] rfl ?_
                  exact ih76 (t + 1) f86 (by omega) (by omega) (by rw [wbL_s ht.1, if_pos hlt]; exact h87) (Fr.tr (Fr.tr Fr.rf k74 (by simp)) k88 (by simp))
                · skip
                  refine G_iload hX 5 rfl d_Dg_take_83 ?_
                  refine G_iload hX 6 rfl d_Dg_take_85 ?_
                  refine G_iadd_z hX d_Dg_take_87 ?_
                  refine G_iload_n hX 3 rfl rfl d_Dg_take_88 ?_
                  refine G_icmp_ge_z hX (tgt := 104) d_Dg_take_89 rfl (by omega) (fun c89 => ?_) (fun c90 => by exfalso; omega)
                  refine G_sipush hX (by decide) d_Dg_take_104 ?_
                  refine G_istore hX (lv' := [(7, .int (zI 128)), (0, .ref (eA E i)), (1, .ref (eA E j)), (2, .int (zI p)), (3, .int (zI m)), (4, .int (zI (((m + 8) / 64 + 1) * 64))), (5, .int (zI (64 * kb))), (6, .int (zI t))]) (by decide) rfl d_Dg_take_107 ?_
                  refine G_aload_n hX 1 rfl rfl d_Dg_take_109 ?_
                  have h91 : f73 i = ob 2 [.ref (eA E a), .ref (eA E b)] := (k74 i (by simp only [List.mem_cons, List.not_mem_nil, or_false]; omega)).trans ((k37 i (by simp only [List.mem_cons, List.not_mem_nil, or_false]; omega)).trans ((k34 i (by simp only [List.mem_cons, List.not_mem_nil, or_false]; omega)).trans h29))
                  refine F_get hX fg_Dg_13 d_Dg_take_110 i hi h91 rfl ?_
                  refine G_iload hX 7 rfl d_Dg_take_113 ?_
                  refine G_iconst hX d_Dg_take_115 ?_
                  refine G_idiv_z hX (by omega) d_Dg_take_116 ?_
                  refine G_dup2 hX rfl rfl d_Dg_take_117 ?_
                  refine F_iald_r hX d_Dg_take_118 b hb h77 (by omega) ?_
                  refine G_iload hX 0 rfl d_Dg_take_119 ?_
                  refine G_bipush hX (by decide) d_Dg_take_121 ?_
                  refine G_iload hX 7 rfl d_Dg_take_123 ?_
                  refine G_iconst hX d_Dg_take_125 ?_
                  refine G_irem_z hX (by omega) d_Dg_take_126 ?_
                  refine G_imul_z hX d_Dg_take_127 ?_
                  refine G_ishl hX d_Dg_take_128 ?_
                  refine G_ior hX d_Dg_take_129 ?_
                  refine F_iast_r hX d_Dg_take_130 b hb h77 (by omega) (fun f92 h93 k94 => ?_)
                  refine G_iinc_z hX (lv' := [(6, .int (zI (t + 1))), (7, .int (zI 128)), (0, .ref (eA E i)), (1, .ref (eA E j)), (2, .int (zI p)), (3, .int (zI m)), (4, .int (zI (((m + 8) / 64 + 1) * 64))), (5, .int (zI (64 * kb)))]) 7 rfl (by decide) rfl d_Dg_take_131 ?_
                  refine G_goto hX (tgt := 67) d_Dg_take_134 rfl ?_
                  refine G_loc (lv' := [(0, .ref (eA E i)), (1, .ref (eA E j)), (2, .int (zI p)), (3, .int (zI m)), (4, .int (zI (((m + 8) / 64 + 1) * 64))), (5, .int (zI (64 * kb))), (6, .int (zI (t + 1)))]) [2, 3, 4, 5, 6, 7, 0] rfl ?_
                  exact ih76 (t + 1) f92 (by omega) (by omega) (by rw [wbL_s ht.1, if_neg hlt]; exact h93) (Fr.tr (Fr.tr Fr.rf k74 (by simp)) k94 (by simp))
        refine G_loc (lv' := [(0, .ref (eA E i)), (1, .ref (eA E j)), (2, .int (zI p)), (3, .int (zI m)), (4, .int (zI (((m + 8) / 64 + 1) * 64))), (5, .int (zI (64 * kb))), (6, .int (zI 0))]) [1, 2, 3, 4, 5, 6, 0] rfl ?_
        exact loop72 (_ + 1) 0 f35 (Nat.lt_succ_self _) (by omega) h36 Fr.rf
  have h95 : f16 b = ia E 16 wd := (k18 b (by simp only [List.mem_cons, List.not_mem_nil, or_false]; omega)).trans ((k15 b (by simp only [List.mem_cons, List.not_mem_nil, or_false]; omega)).trans ((k11 b (by simp only [List.mem_cons, List.not_mem_nil, or_false]; omega)).trans ((k7 b (by simp only [List.mem_cons, List.not_mem_nil, or_false]; omega)).trans ((k3 b (by simp only [List.mem_cons, List.not_mem_nil, or_false]; omega)).trans hD.2.2))))
  refine G_loc (lv' := [(0, .ref (eA E i)), (1, .ref (eA E j)), (2, .int (zI p)), (3, .int (zI m)), (4, .int (zI ((((m + 8) / 64) + 1) * 64))), (5, .int (zI 0))]) [2, 3, 4, 5, 1, 0] rfl ?_
  refine G_cast (loop19 (_ + 1) 0 wd f16 (Nat.lt_succ_self _) (by omega) (by rw [m5T_0]; exact h17) h95 Fr.rf) rfl (by rfl) rfl rfl
