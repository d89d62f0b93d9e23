/-! DeltaFerry$Row: printed by wip/tools/m_row.py -/
/-- a row of n cells g, of which c are there, at the cells i and j -/
def isR (E : EV) (f : Nat → va_E) (i j n : Nat) (g : Int → Int) (c : Int) : Prop := f i = ob 6 [.ref (eA E j), .int (zI c)] ∧ f j = iz E n g
theorem c_Ro_left (E : EV) (f : Nat → va_E) (i j n : Nat) (g : Int → Int) (c : Int) (hi : i < NC) (hj : j < NC) (hij : i ≠ j) (hR : isR E f i j n g c) (hc : 0 ≤ c ∧ c ≤ n ∧ n ≤ 2000) : CF yn_Ro_left cd_Ro_left 1 (some (.int)) 0 E [.ref (eA E i)] f (fun r f' => r = some (.int (zI (n - c))) ∧ f' = f) := by
  refine CF.of (by decide +kernel) (Nat.le_of_ble_eq_true rfl) fun X hX hE => ?_
  have hX : Ok E X "DeltaFerry$Row" "left" cd_Ro_left 1 (some (.int)) (rl 0) := hX
  refine G_cast (lv' := [(0, .ref (eA E i))]) ?_ rfl rfl rfl rfl
  refine G_aload_n hX 0 rfl rfl d_Ro_left_0 ?_
  refine F_get hX fg_Ro_7 d_Ro_left_1 i hi hR.1 rfl ?_
  refine F_alen hX d_Ro_left_4 j hj hR.2 ?_
  refine G_aload_n hX 0 rfl rfl d_Ro_left_5 ?_
  refine F_get hX fg_Ro_13 d_Ro_left_6 i hi hR.1 rfl ?_
  refine G_isub_z hX d_Ro_left_9 ?_
  exact F_iret hX hE d_Ro_left_10 ⟨rfl, rfl⟩
theorem c_Ro_has (E : EV) (f : Nat → va_E) (i j n : Nat) (g : Int → Int) (c : Int) (p : Int) (hi : i < NC) (hj : j < NC) (hij : i ≠ j) (hR : isR E f i j n g c) (hc : 0 ≤ c ∧ c ≤ n ∧ n ≤ 2000) (hp : -2147483648 ≤ p ∧ p < 2147483648) : CF yn_Ro_has cd_Ro_has 2 (some (.boolean)) 0 E [.ref (eA E i), .int (zI p)] f (fun r f' => r = some (.int (zI (if 0 ≤ p ∧ p < c then 1 else 0))) ∧ f' = f) := by
  refine CF.of (by decide +kernel) (Nat.le_of_ble_eq_true rfl) fun X hX hE => ?_
  have hX : Ok E X "DeltaFerry$Row" "has" cd_Ro_has 2 (some (.boolean)) (rl 0) := hX
  refine G_cast (lv' := [(0, .ref (eA E i)), (1, .int (zI p))]) ?_ rfl rfl rfl rfl
  refine G_iload_n hX 1 rfl rfl d_Ro_has_0 ?_
  refine G_if_lt_z hX (tgt := 16) d_Ro_has_1 rfl (by omega) (fun c1 => ?_) (fun c2 => ?_)
  · skip
    refine G_iconst hX d_Ro_has_16 ?_
    exact F_zret hX hE (by decide) d_Ro_has_17 ⟨by rw [if_neg (by omega)], rfl⟩
  · skip
    refine G_iload_n hX 1 rfl rfl d_Ro_has_4 ?_
    refine G_aload_n hX 0 rfl rfl d_Ro_has_5 ?_
    refine F_get hX fg_Ro_13 d_Ro_has_6 i hi hR.1 rfl ?_
    refine G_icmp_ge_z hX (tgt := 16) d_Ro_has_9 rfl (by omega) (fun c3 => ?_) (fun c4 => ?_)
    · skip
      refine G_iconst hX d_Ro_has_16 ?_
      exact F_zret hX hE (by decide) d_Ro_has_17 ⟨by rw [if_neg (by omega)], rfl⟩
    · skip
      refine G_iconst hX d_Ro_has_12 ?_
      refine G_goto hX (tgt := 17) d_Ro_has_13 rfl ?_
      exact F_zret hX hE (by decide) d_Ro_has_17 ⟨by rw [if_pos (by omega)], rfl⟩
theorem c_Ro_push (E : EV) (f : Nat → va_E) (i j n : Nat) (g : Int → Int) (c : Int) (v : Int) (hi : i < NC) (hj : j < NC) (hij : i ≠ j) (hR : isR E f i j n g c) (hc : 0 ≤ c ∧ c ≤ n ∧ n ≤ 2000) (hv : c < n) : CF yn_Ro_push cd_Ro_push 2 none 0 E [.ref (eA E i), .int (zI v)] f (fun r f' => r = none ∧ isR E f' i j n (uz g c v) (c + 1) ∧ Fr [i, j] f f') := by
  refine CF.of (by decide +kernel) (Nat.le_of_ble_eq_true rfl) fun X hX hE => ?_
  have hX : Ok E X "DeltaFerry$Row" "push" cd_Ro_push 2 none (rl 0) := hX
  refine G_cast (lv' := [(0, .ref (eA E i)), (1, .int (zI v))]) ?_ rfl rfl rfl rfl
  refine G_aload_n hX 0 rfl rfl d_Ro_push_0 ?_
  refine F_get hX fg_Ro_13 d_Ro_push_1 i hi hR.1 rfl ?_
  refine G_aload_n hX 0 rfl rfl d_Ro_push_4 ?_
  refine F_get hX fg_Ro_7 d_Ro_push_5 i hi hR.1 rfl ?_
  refine F_alen hX d_Ro_push_8 j hj hR.2 ?_
  refine G_icmp_ge_z hX (tgt := 32) d_Ro_push_9 rfl (by omega) (fun c1 => by exfalso; omega) (fun c2 => ?_)
  refine G_aload_n hX 0 rfl rfl d_Ro_push_12 ?_
  refine F_get hX fg_Ro_7 d_Ro_push_13 i hi hR.1 rfl ?_
  refine G_aload_n hX 0 rfl rfl d_Ro_push_16 ?_
  refine F_get hX fg_Ro_13 d_Ro_push_17 i hi hR.1 rfl ?_
  refine G_iload_n hX 1 rfl rfl d_Ro_push_20 ?_
  refine F_iast hX d_Ro_push_21 j hj hR.2 (by omega) (fun f3 h4 k5 => ?_)
  refine G_aload_n hX 0 rfl rfl d_Ro_push_22 ?_
  refine G_dup hX rfl d_Ro_push_23 ?_
  have h6 : f3 i = ob 6 [.ref (eA E j), .int (zI c)] := (k5 i (by simp only [List.mem_cons, List.not_mem_nil, or_false]; omega)).trans hR.1
  refine F_get hX fg_Ro_13 d_Ro_push_24 i hi h6 rfl ?_
  refine G_iconst hX d_Ro_push_27 ?_
  refine G_iadd_z hX d_Ro_push_28 ?_
  refine F_put hX fg_Ro_13 fp_Ro_1 d_Ro_push_29 i (fs' := [.ref (eA E j), .int (zI (c + 1))]) hi h6 rfl rfl (Nat.le_of_ble_eq_true rfl) rfl (fun f7 h8 k9 => ?_)
  have h10 : f7 j = iz E n (uz g c v) := (k9 j (by simp only [List.mem_cons, List.not_mem_nil, or_false]; omega)).trans h4
  exact F_vret hX hE d_Ro_push_32 ⟨rfl, ⟨h8, h10⟩, (Fr.tr (Fr.tr Fr.rf k5 (by simp)) k9 (by simp))⟩
/-- how many bytes a number takes, and its bytes, the highest first -/
def wid (v : Int) : Int := if v < 128 then 1 else if v < 16384 then 2 else if v < 2097152 then 3 else 4
def nby (v k : Int) : Int := if wid v = 1 then v else if wid v = 2 then (if k = 0 then 128 + v / 128 else v % 128) else if wid v = 3 then (if k = 0 then 128 + v / 16384 else if k = 1 then 128 + v / 128 % 128 else v % 128) else (if k = 0 then 128 + v / 2097152 else if k = 1 then 128 + v / 16384 % 128 else if k = 2 then 128 + v / 128 % 128 else v % 128)
theorem wid_cases {v : Int} (hv : 0 ≤ v ∧ v < 268435456) : (v < 128 ∧ wid v = 1) ∨ ((128 ≤ v ∧ v < 16384) ∧ wid v = 2) ∨ ((16384 ≤ v ∧ v < 2097152) ∧ wid v = 3) ∨ (2097152 ≤ v ∧ wid v = 4) := by
  unfold wid
  repeat (first | omega | split)
/-- w values of b, laid into g from c on -/
def pz (g : Int → Int) (c : Int) (b : Int → Int) (w : Int) : Int → Int := fun j => if c ≤ j ∧ j < c + w then b (j - c) else g j
theorem c_Ro_pushNumber (E : EV) (f : Nat → va_E) (i j n : Nat) (g : Int → Int) (c : Int) (v : Int) (hi : i < NC) (hj : j < NC) (hij : i ≠ j) (hR : isR E f i j n g c) (hc : 0 ≤ c ∧ c ≤ n ∧ n ≤ 2000) (hv : 0 ≤ v ∧ v < 268435456) (hw : c + wid v ≤ n) : CF yn_Ro_pushNumber cd_Ro_pushNumber 3 none 1 E [.ref (eA E i), .int (zI v)] f (fun r f' => r = none ∧ isR E f' i j n (pz g c (nby v) (wid v)) (c + wid v) ∧ Fr [i, j] f f') := by
  refine CF.of (by decide +kernel) (Nat.le_of_ble_eq_true rfl) fun X hX hE => ?_
  have hX : Ok E X "DeltaFerry$Row" "pushNumber" cd_Ro_pushNumber 3 none (rl 1) := hX
  refine G_cast (lv' := [(0, .ref (eA E i)), (1, .int (zI v))]) ?_ rfl rfl rfl rfl
  rcases wid_cases hv with ⟨h0, hw9⟩ | ⟨h0, hw9⟩ | ⟨h0, hw9⟩ | ⟨h0, hw9⟩
  · skip
    refine G_bipush hX (by decide) d_Ro_pushNumber_0 ?_
    refine G_istore_n hX (lv' := [(2, .int (zI 21)), (0, .ref (eA E i)), (1, .int (zI v))]) rfl (by decide) rfl d_Ro_pushNumber_2 ?_
    refine G_iload_n hX 0 rfl rfl d_Ro_pushNumber_3 ?_
    refine G_if_le_z hX (tgt := 33) d_Ro_pushNumber_4 rfl (by omega) (fun c1 => by exfalso; omega) (fun c2 => ?_)
    refine G_iload_n hX 2 rfl rfl d_Ro_pushNumber_7 ?_
    refine G_iload_n hX 0 rfl rfl d_Ro_pushNumber_8 ?_
    refine G_iushr hX (v := ((zI v).toUInt32 >>> ((zI 21).toUInt32 &&& Int32.toUInt32 31)).toInt32) rfl d_Ro_pushNumber_9 ?_
    refine G_top (show (((zI v).toUInt32 >>> ((zI 21).toUInt32 &&& Int32.toUInt32 31)).toInt32) = zI (v / 2097152) from zI_ushr21 (by omega)) ?_
    refine G_if_eq_z hX (tgt := 27) d_Ro_pushNumber_10 rfl (by omega) (fun c3 => ?_) (fun c4 => by exfalso; omega)
    refine G_iinc_z hX (lv' := [(2, .int (zI (21 + (-7)))), (0, .ref (eA E i)), (1, .int (zI v))]) 0 rfl (by decide) rfl d_Ro_pushNumber_27 ?_
    refine G_goto hX (tgt := 3) d_Ro_pushNumber_30 rfl ?_
    refine G_cast (lv' := [(2, .int (zI 14)), (0, .ref (eA E i)), (1, .int (zI v))]) ?_ rfl rfl rfl rfl
    refine G_iload_n hX 0 rfl rfl d_Ro_pushNumber_3 ?_
    refine G_if_le_z hX (tgt := 33) d_Ro_pushNumber_4 rfl (by omega) (fun c5 => by exfalso; omega) (fun c6 => ?_)
    refine G_iload_n hX 2 rfl rfl d_Ro_pushNumber_7 ?_
    refine G_iload_n hX 0 rfl rfl d_Ro_pushNumber_8 ?_
    refine G_iushr hX (v := ((zI v).toUInt32 >>> ((zI 14).toUInt32 &&& Int32.toUInt32 31)).toInt32) rfl d_Ro_pushNumber_9 ?_
    refine G_top (show (((zI v).toUInt32 >>> ((zI 14).toUInt32 &&& Int32.toUInt32 31)).toInt32) = zI (v / 16384) from zI_ushr14 (by omega)) ?_
    refine G_if_eq_z hX (tgt := 27) d_Ro_pushNumber_10 rfl (by omega) (fun c7 => ?_) (fun c8 => by exfalso; omega)
    refine G_iinc_z hX (lv' := [(2, .int (zI (14 + (-7)))), (0, .ref (eA E i)), (1, .int (zI v))]) 0 rfl (by decide) rfl d_Ro_pushNumber_27 ?_
    refine G_goto hX (tgt := 3) d_Ro_pushNumber_30 rfl ?_
    refine G_cast (lv' := [(2, .int (zI 7)), (0, .ref (eA E i)), (1, .int (zI v))]) ?_ rfl rfl rfl rfl
    refine G_iload_n hX 0 rfl rfl d_Ro_pushNumber_3 ?_
    refine G_if_le_z hX (tgt := 33) d_Ro_pushNumber_4 rfl (by omega) (fun c9 => by exfalso; omega) (fun c10 => ?_)
    refine G_iload_n hX 2 rfl rfl d_Ro_pushNumber_7 ?_
    refine G_iload_n hX 0 rfl rfl d_Ro_pushNumber_8 ?_
    refine G_iushr hX (v := ((zI v).toUInt32 >>> ((zI 7).toUInt32 &&& Int32.toUInt32 31)).toInt32) rfl d_Ro_pushNumber_9 ?_
    refine G_top (show (((zI v).toUInt32 >>> ((zI 7).toUInt32 &&& Int32.toUInt32 31)).toInt32) = zI (v / 128) from zI_ushr7 (by omega)) ?_
    refine G_if_eq_z hX (tgt := 27) d_Ro_pushNumber_10 rfl (by omega) (fun c11 => ?_) (fun c12 => by exfalso; omega)
    refine G_iinc_z hX (lv' := [(2, .int (zI (7 + (-7)))), (0, .ref (eA E i)), (1, .int (zI v))]) 0 rfl (by decide) rfl d_Ro_pushNumber_27 ?_
    refine G_goto hX (tgt := 3) d_Ro_pushNumber_30 rfl ?_
    refine G_cast (lv' := [(2, .int (zI 0)), (0, .ref (eA E i)), (1, .int (zI v))]) ?_ rfl rfl rfl rfl
    refine G_iload_n hX 0 rfl rfl d_Ro_pushNumber_3 ?_
    refine G_if_le_z hX (tgt := 33) d_Ro_pushNumber_4 rfl (by omega) (fun c13 => ?_) (fun c14 => by exfalso; omega)
    refine G_aload_n hX 1 rfl rfl d_Ro_pushNumber_33 ?_
    refine G_iload_n hX 2 rfl rfl d_Ro_pushNumber_34 ?_
    refine G_bipush hX (by decide) d_Ro_pushNumber_35 ?_
    refine G_iand hX d_Ro_pushNumber_37 ?_
    refine G_top (show (zI v &&& zI 127) = zI (v % 128) from zI_and127 _) ?_
    refine F_callV hX (st := []) (c_Ro_push E f i j n g c (v % 128) hi hj (by omega) ⟨hR.1, hR.2⟩ (by omega) (by omega)) cm_Ro_push im_Ro_push se_Ro_push rfl ml_Ro_17 d_Ro_pushNumber_38 hi hR.1 rfl rfl (Nat.le_of_ble_eq_true rfl) (by decide) ?_
    rintro _ f15 ⟨rfl, ⟨h18, h19⟩, k20⟩
    refine G_cast (st' := []) ?_ rfl rfl rfl rfl
    refine F_vret hX hE d_Ro_pushNumber_41 ⟨rfl, ⟨?_, ?_⟩, (Fr.tr Fr.rf k20 (by simp))⟩
    · rw [show c + wid v = c + 1 by omega]; exact h18
    · rw [h19]; congr 5; funext x; simp only [pz, uz, nby, hw9]; grind
  · skip
    refine G_bipush hX (by decide) d_Ro_pushNumber_0 ?_
    refine G_istore_n hX (lv' := [(2, .int (zI 21)), (0, .ref (eA E i)), (1, .int (zI v))]) rfl (by decide) rfl d_Ro_pushNumber_2 ?_
    refine G_iload_n hX 0 rfl rfl d_Ro_pushNumber_3 ?_
    refine G_if_le_z hX (tgt := 33) d_Ro_pushNumber_4 rfl (by omega) (fun c21 => by exfalso; omega) (fun c22 => ?_)
    refine G_iload_n hX 2 rfl rfl d_Ro_pushNumber_7 ?_
    refine G_iload_n hX 0 rfl rfl d_Ro_pushNumber_8 ?_
    refine G_iushr hX (v := ((zI v).toUInt32 >>> ((zI 21).toUInt32 &&& Int32.toUInt32 31)).toInt32) rfl d_Ro_pushNumber_9 ?_
    refine G_top (show (((zI v).toUInt32 >>> ((zI 21).toUInt32 &&& Int32.toUInt32 31)).toInt32) = zI (v / 2097152) from zI_ushr21 (by omega)) ?_
    refine G_if_eq_z hX (tgt := 27) d_Ro_pushNumber_10 rfl (by omega) (fun c23 => ?_) (fun c24 => by exfalso; omega)
    refine G_iinc_z hX (lv' := [(2, .int (zI (21 + (-7)))), (0, .ref (eA E i)), (1, .int (zI v))]) 0 rfl (by decide) rfl d_Ro_pushNumber_27 ?_
    refine G_goto hX (tgt := 3) d_Ro_pushNumber_30 rfl ?_
    refine G_cast (lv' := [(2, .int (zI 14)), (0, .ref (eA E i)), (1, .int (zI v))]) ?_ rfl rfl rfl rfl
    refine G_iload_n hX 0 rfl rfl d_Ro_pushNumber_3 ?_
    refine G_if_le_z hX (tgt := 33) d_Ro_pushNumber_4 rfl (by omega) (fun c25 => by exfalso; omega) (fun c26 => ?_)
    refine G_iload_n hX 2 rfl rfl d_Ro_pushNumber_7 ?_
    refine G_iload_n hX 0 rfl rfl d_Ro_pushNumber_8 ?_
    refine G_iushr hX (v := ((zI v).toUInt32 >>> ((zI 14).toUInt32 &&& Int32.toUInt32 31)).toInt32) rfl d_Ro_pushNumber_9 ?_
    refine G_top (show (((zI v).toUInt32 >>> ((zI 14).toUInt32 &&& Int32.toUInt32 31)).toInt32) = zI (v / 16384) from zI_ushr14 (by omega)) ?_
    refine G_if_eq_z hX (tgt := 27) d_Ro_pushNumber_10 rfl (by omega) (fun c27 => ?_) (fun c28 => by exfalso; omega)
    refine G_iinc_z hX (lv' := [(2, .int (zI (14 + (-7)))), (0, .ref (eA E i)), (1, .int (zI v))]) 0 rfl (by decide) rfl d_Ro_pushNumber_27 ?_
    refine G_goto hX (tgt := 3) d_Ro_pushNumber_30 rfl ?_
    refine G_cast (lv' := [(2, .int (zI 7)), (0, .ref (eA E i)), (1, .int (zI v))]) ?_ rfl rfl rfl rfl
    refine G_iload_n hX 0 rfl rfl d_Ro_pushNumber_3 ?_
    refine G_if_le_z hX (tgt := 33) d_Ro_pushNumber_4 rfl (by omega) (fun c29 => by exfalso; omega) (fun c30 => ?_)
    refine G_iload_n hX 2 rfl rfl d_Ro_pushNumber_7 ?_
    refine G_iload_n hX 0 rfl rfl d_Ro_pushNumber_8 ?_
    refine G_iushr hX (v := ((zI v).toUInt32 >>> ((zI 7).toUInt32 &&& Int32.toUInt32 31)).toInt32) rfl d_Ro_pushNumber_9 ?_
    refine G_top (show (((zI v).toUInt32 >>> ((zI 7).toUInt32 &&& Int32.toUInt32 31)).toInt32) = zI (v / 128) from zI_ushr7 (by omega)) ?_
    refine G_if_eq_z hX (tgt := 27) d_Ro_pushNumber_10 rfl (by omega) (fun c31 => by exfalso; omega) (fun c32 => ?_)
    refine G_aload_n hX 1 rfl rfl d_Ro_pushNumber_13 ?_
    refine G_sipush hX (by decide) d_Ro_pushNumber_14 ?_
    refine G_iload_n hX 2 rfl rfl d_Ro_pushNumber_17 ?_
    refine G_iload_n hX 0 rfl rfl d_Ro_pushNumber_18 ?_
    refine G_iushr hX (v := ((zI v).toUInt32 >>> ((zI 7).toUInt32 &&& Int32.toUInt32 31)).toInt32) rfl d_Ro_pushNumber_19 ?_
    refine G_top (show (((zI v).toUInt32 >>> ((zI 7).toUInt32 &&& Int32.toUInt32 31)).toInt32) = zI (v / 128) from zI_ushr7 (by omega)) ?_
    refine G_bipush hX (by decide) d_Ro_pushNumber_20 ?_
    refine G_iand hX d_Ro_pushNumber_22 ?_
    refine G_top (show (zI (v / 128) &&& zI 127) = zI ((v / 128) % 128) from zI_and127 _) ?_
    refine G_ior hX d_Ro_pushNumber_23 ?_
    refine G_top (show (zI 128 ||| zI ((v / 128) % 128)) = zI (128 + ((v / 128) % 128)) from zI_or128 (by omega)) ?_
    refine F_callV hX (st := []) (c_Ro_push E f i j n g c (128 + ((v / 128) % 128)) hi hj (by omega) ⟨hR.1, hR.2⟩ (by omega) (by omega)) cm_Ro_push im_Ro_push se_Ro_push rfl ml_Ro_17 d_Ro_pushNumber_24 hi hR.1 rfl rfl (Nat.le_of_ble_eq_true rfl) (by decide) ?_
    rintro _ f33 ⟨rfl, ⟨h36, h37⟩, k38⟩
    refine G_cast (st' := []) ?_ rfl rfl rfl rfl
    refine G_iinc_z hX (lv' := [(2, .int (zI (7 + (-7)))), (0, .ref (eA E i)), (1, .int (zI v))]) 0 rfl (by decide) rfl d_Ro_pushNumber_27 ?_
    refine G_goto hX (tgt := 3) d_Ro_pushNumber_30 rfl ?_
    refine G_cast (lv' := [(2, .int (zI 0)), (0, .ref (eA E i)), (1, .int (zI v))]) ?_ rfl rfl rfl rfl
    refine G_iload_n hX 0 rfl rfl d_Ro_pushNumber_3 ?_
    refine G_if_le_z hX (tgt := 33) d_Ro_pushNumber_4 rfl (by omega) (fun c39 => ?_) (fun c40 => by exfalso; omega)
    refine G_aload_n hX 1 rfl rfl d_Ro_pushNumber_33 ?_
    refine G_iload_n hX 2 rfl rfl d_Ro_pushNumber_34 ?_
    refine G_bipush hX (by decide) d_Ro_pushNumber_35 ?_
    refine G_iand hX d_Ro_pushNumber_37 ?_
    refine G_top (show (zI v &&& zI 127) = zI (v % 128) from zI_and127 _) ?_
    refine F_callV hX (st := []) (c_Ro_push E f33 i j n (uz g c (128 + ((v / 128) % 128))) (c + 1) (v % 128) hi hj (by omega) ⟨h36, h37⟩ (by omega) (by omega)) cm_Ro_push im_Ro_push se_Ro_push rfl ml_Ro_17 d_Ro_pushNumber_38 hi h36 rfl rfl (Nat.le_of_ble_eq_true rfl) (by decide) ?_
    rintro _ f41 ⟨rfl, ⟨h44, h45⟩, k46⟩
    refine G_cast (st' := []) ?_ rfl rfl rfl rfl
    refine F_vret hX hE d_Ro_pushNumber_41 ⟨rfl, ⟨?_, ?_⟩, (Fr.tr (Fr.tr Fr.rf k38 (by simp)) k46 (by simp))⟩
    · rw [show c + wid v = (c + 1) + 1 by omega]; exact h44
    · rw [h45]; congr 5; funext x; simp only [pz, uz, nby, hw9]; grind
  · skip
    refine G_bipush hX (by decide) d_Ro_pushNumber_0 ?_
    refine G_istore_n hX (lv' := [(2, .int (zI 21)), (0, .ref (eA E i)), (1, .int (zI v))]) rfl (by decide) rfl d_Ro_pushNumber_2 ?_
    refine G_iload_n hX 0 rfl rfl d_Ro_pushNumber_3 ?_
    refine G_if_le_z hX (tgt := 33) d_Ro_pushNumber_4 rfl (by omega) (fun c47 => by exfalso; omega) (fun c48 => ?_)
    refine G_iload_n hX 2 rfl rfl d_Ro_pushNumber_7 ?_
    refine G_iload_n hX 0 rfl rfl d_Ro_pushNumber_8 ?_
    refine G_iushr hX (v := ((zI v).toUInt32 >>> ((zI 21).toUInt32 &&& Int32.toUInt32 31)).toInt32) rfl d_Ro_pushNumber_9 ?_
    refine G_top (show (((zI v).toUInt32 >>> ((zI 21).toUInt32 &&& Int32.toUInt32 31)).toInt32) = zI (v / 2097152) from zI_ushr21 (by omega)) ?_
    refine G_if_eq_z hX (tgt := 27) d_Ro_pushNumber_10 rfl (by omega) (fun c49 => ?_) (fun c50 => by exfalso; omega)
    refine G_iinc_z hX (lv' := [(2, .int (zI (21 + (-7)))), (0, .ref (eA E i)), (1, .int (zI v))]) 0 rfl (by decide) rfl d_Ro_pushNumber_27 ?_
    refine G_goto hX (tgt := 3) d_Ro_pushNumber_30 rfl ?_
    refine G_cast (lv' := [(2, .int (zI 14)), (0, .ref (eA E i)), (1, .int (zI v))]) ?_ rfl rfl rfl rfl
    refine G_iload_n hX 0 rfl rfl d_Ro_pushNumber_3 ?_
    refine G_if_le_z hX (tgt := 33) d_Ro_pushNumber_4 rfl (by omega) (fun c51 => by exfalso; omega) (fun c52 => ?_)
    refine G_iload_n hX 2 rfl rfl d_Ro_pushNumber_7 ?_
    refine G_iload_n hX 0 rfl rfl d_Ro_pushNumber_8 ?_
    refine G_iushr hX (v := ((zI v).toUInt32 >>> ((zI 14).toUInt32 &&& Int32.toUInt32 31)).toInt32) rfl d_Ro_pushNumber_9 ?_
    refine G_top (show (((zI v).toUInt32 >>> ((zI 14).toUInt32 &&& Int32.toUInt32 31)).toInt32) = zI (v / 16384) from zI_ushr14 (by omega)) ?_
    refine G_if_eq_z hX (tgt := 27) d_Ro_pushNumber_10 rfl (by omega) (fun c53 => by exfalso; omega) (fun c54 => ?_)
    refine G_aload_n hX 1 rfl rfl d_Ro_pushNumber_13 ?_
    refine G_sipush hX (by decide) d_Ro_pushNumber_14 ?_
    refine G_iload_n hX 2 rfl rfl d_Ro_pushNumber_17 ?_
    refine G_iload_n hX 0 rfl rfl d_Ro_pushNumber_18 ?_
    refine G_iushr hX (v := ((zI v).toUInt32 >>> ((zI 14).toUInt32 &&& Int32.toUInt32 31)).toInt32) rfl d_Ro_pushNumber_19 ?_
    refine G_top (show (((zI v).toUInt32 >>> ((zI 14).toUInt32 &&& Int32.toUInt32 31)).toInt32) = zI (v / 16384) from zI_ushr14 (by omega)) ?_
    refine G_bipush hX (by decide) d_Ro_pushNumber_20 ?_
    refine G_iand hX d_Ro_pushNumber_22 ?_
    refine G_top (show (zI (v / 16384) &&& zI 127) = zI ((v / 16384) % 128) from zI_and127 _) ?_
    refine G_ior hX d_Ro_pushNumber_23 ?_
    refine G_top (show (zI 128 ||| zI ((v / 16384) % 128)) = zI (128 + ((v / 16384) % 128)) from zI_or128 (by omega)) ?_
    refine F_callV hX (st := []) (c_Ro_push E f i j n g c (128 + ((v / 16384) % 128)) hi hj (by omega) ⟨hR.1, hR.2⟩ (by omega) (by omega)) cm_Ro_push im_Ro_push se_Ro_push rfl ml_Ro_17 d_Ro_pushNumber_24 hi hR.1 rfl rfl (Nat.le_of_ble_eq_true rfl) (by decide) ?_
    rintro _ f55 ⟨rfl, ⟨h58, h59⟩, k60⟩
    refine G_cast (st' := []) ?_ rfl rfl rfl rfl
    refine G_iinc_z hX (lv' := [(2, .int (zI (14 + (-7)))), (0, .ref (eA E i)), (1, .int (zI v))]) 0 rfl (by decide) rfl d_Ro_pushNumber_27 ?_
    refine G_goto hX (tgt := 3) d_Ro_pushNumber_30 rfl ?_
    refine G_cast (lv' := [(2, .int (zI 7)), (0, .ref (eA E i)), (1, .int (zI v))]) ?_ rfl rfl rfl rfl
    refine G_iload_n hX 0 rfl rfl d_Ro_pushNumber_3 ?_
    refine G_if_le_z hX (tgt := 33) d_Ro_pushNumber_4 rfl (by omega) (fun c61 => by exfalso; omega) (fun c62 => ?_)
    refine G_iload_n hX 2 rfl rfl d_Ro_pushNumber_7 ?_
    refine G_iload_n hX 0 rfl rfl d_Ro_pushNumber_8 ?_
    refine G_iushr hX (v := ((zI v).toUInt32 >>> ((zI 7).toUInt32 &&& Int32.toUInt32 31)).toInt32) rfl d_Ro_pushNumber_9 ?_
    refine G_top (show (((zI v).toUInt32 >>> ((zI 7).toUInt32 &&& Int32.toUInt32 31)).toInt32) = zI (v / 128) from zI_ushr7 (by omega)) ?_
    refine G_if_eq_z hX (tgt := 27) d_Ro_pushNumber_10 rfl (by omega) (fun c63 => by exfalso; omega) (fun c64 => ?_)
    refine G_aload_n hX 1 rfl rfl d_Ro_pushNumber_13 ?_
    refine G_sipush hX (by decide) d_Ro_pushNumber_14 ?_
    refine G_iload_n hX 2 rfl rfl d_Ro_pushNumber_17 ?_
    refine G_iload_n hX 0 rfl rfl d_Ro_pushNumber_18 ?_
    refine G_iushr hX (v := ((zI v).toUInt32 >>> ((zI 7).toUInt32 &&& Int32.toUInt32 31)).toInt32) rfl d_Ro_pushNumber_19 ?_
    refine G_top (show (((zI v).toUInt32 >>> ((zI 7).toUInt32 &&& Int32.toUInt32 31)).toInt32) = zI (v / 128) from zI_ushr7 (by omega)) ?_
    refine G_bipush hX (by decide) d_Ro_pushNumber_20 ?_
    refine G_iand hX d_Ro_pushNumber_22 ?_
    refine G_top (show (zI (v / 128) &&& zI 127) = zI ((v / 128) % 128) from zI_and127 _) ?_
    refine G_ior hX d_Ro_pushNumber_23 ?_
    refine G_top (show (zI 128 ||| zI ((v / 128) % 128)) = zI (128 + ((v / 128) % 128)) from zI_or128 (by omega)) ?_
    refine F_callV hX (st := []) (c_Ro_push E f55 i j n (uz g c (128 + ((v / 16384) % 128))) (c + 1) (128 + ((v / 128) % 128)) hi hj (by omega) ⟨h58, h59⟩ (by omega) (by omega)) cm_Ro_push im_Ro_push se_Ro_push rfl ml_Ro_17 d_Ro_pushNumber_24 hi h58 rfl rfl (Nat.le_of_ble_eq_true rfl) (by decide) ?_
    rintro _ f65 ⟨rfl, ⟨h68, h69⟩, k70⟩
    refine G_cast (st' := []) ?_ rfl rfl rfl rfl
    refine G_iinc_z hX (lv' := [(2, .int (zI (7 + (-7)))), (0, .ref (eA E i)), (1, .int (zI v))]) 0 rfl (by decide) rfl d_Ro_pushNumber_27 ?_
    refine G_goto hX (tgt := 3) d_Ro_pushNumber_30 rfl ?_
    refine G_cast (lv' := [(2, .int (zI 0)), (0, .ref (eA E i)), (1, .int (zI v))]) ?_ rfl rfl rfl rfl
    refine G_iload_n hX 0 rfl rfl d_Ro_pushNumber_3 ?_
    refine G_if_le_z hX (tgt := 33) d_Ro_pushNumber_4 rfl (by omega) (fun c71 => ?_) (fun c72 => by exfalso; omega)
    refine G_aload_n hX 1 rfl rfl d_Ro_pushNumber_33 ?_
    refine G_iload_n hX 2 rfl rfl d_Ro_pushNumber_34 ?_
    refine G_bipush hX (by decide) d_Ro_pushNumber_35 ?_
    refine G_iand hX d_Ro_pushNumber_37 ?_
    refine G_top (show (zI v &&& zI 127) = zI (v % 128) from zI_and127 _) ?_
    refine F_callV hX (st := []) (c_Ro_push E f65 i j n (uz (uz g c (128 + ((v / 16384) % 128))) (c + 1) (128 + ((v / 128) % 128))) ((c + 1) + 1) (v % 128) hi hj (by omega) ⟨h68, h69⟩ (by omega) (by omega)) cm_Ro_push im_Ro_push se_Ro_push rfl ml_Ro_17 d_Ro_pushNumber_38 hi h68 rfl rfl (Nat.le_of_ble_eq_true rfl) (by decide) ?_
    rintro _ f73 ⟨rfl, ⟨h76, h77⟩, k78⟩
    refine G_cast (st' := []) ?_ rfl rfl rfl rfl
    refine F_vret hX hE d_Ro_pushNumber_41 ⟨rfl, ⟨?_, ?_⟩, (Fr.tr (Fr.tr (Fr.tr Fr.rf k60 (by simp)) k70 (by simp)) k78 (by simp))⟩
    · rw [show c + wid v = ((c + 1) + 1) + 1 by omega]; exact h76
    · rw [h77]; congr 5; funext x; simp only [pz, uz, nby, hw9]; grind
  · skip
    refine G_bipush hX (by decide) d_Ro_pushNumber_0 ?_
    refine G_istore_n hX (lv' := [(2, .int (zI 21)), (0, .ref (eA E i)), (1, .int (zI v))]) rfl (by decide) rfl d_Ro_pushNumber_2 ?_
    refine G_iload_n hX 0 rfl rfl d_Ro_pushNumber_3 ?_
    refine G_if_le_z hX (tgt := 33) d_Ro_pushNumber_4 rfl (by omega) (fun c79 => by exfalso; omega) (fun c80 => ?_)
    refine G_iload_n hX 2 rfl rfl d_Ro_pushNumber_7 ?_
    refine G_iload_n hX 0 rfl rfl d_Ro_pushNumber_8 ?_
    refine G_iushr hX (v := ((zI v).toUInt32 >>> ((zI 21).toUInt32 &&& Int32.toUInt32 31)).toInt32) rfl d_Ro_pushNumber_9 ?_
    refine G_top (show (((zI v).toUInt32 >>> ((zI 21).toUInt32 &&& Int32.toUInt32 31)).toInt32) = zI (v / 2097152) from zI_ushr21 (by omega)) ?_
    refine G_if_eq_z hX (tgt := 27) d_Ro_pushNumber_10 rfl (by omega) (fun c81 => by exfalso; omega) (fun c82 => ?_)
    refine G_aload_n hX 1 rfl rfl d_Ro_pushNumber_13 ?_
    refine G_sipush hX (by decide) d_Ro_pushNumber_14 ?_
    refine G_iload_n hX 2 rfl rfl d_Ro_pushNumber_17 ?_
    refine G_iload_n hX 0 rfl rfl d_Ro_pushNumber_18 ?_
    refine G_iushr hX (v := ((zI v).toUInt32 >>> ((zI 21).toUInt32 &&& Int32.toUInt32 31)).toInt32) rfl d_Ro_pushNumber_19 ?_
    refine G_top (show (((zI v).toUInt32 >>> ((zI 21).toUInt32 &&& Int32.toUInt32 31)).toInt32) = zI (v / 2097152) from zI_ushr21 (by omega)) ?_
    refine G_bipush hX (by decide) d_Ro_pushNumber_20 ?_
    refine G_iand hX d_Ro_pushNumber_22 ?_
    refine G_top (show (zI (v / 2097152) &&& zI 127) = zI ((v / 2097152) % 128) from zI_and127 _) ?_
    refine G_ior hX d_Ro_pushNumber_23 ?_
    refine G_top (show (zI 128 ||| zI ((v / 2097152) % 128)) = zI (128 + ((v / 2097152) % 128)) from zI_or128 (by omega)) ?_
    refine F_callV hX (st := []) (c_Ro_push E f i j n g c (128 + ((v / 2097152) % 128)) hi hj (by omega) ⟨hR.1, hR.2⟩ (by omega) (by omega)) cm_Ro_push im_Ro_push se_Ro_push rfl ml_Ro_17 d_Ro_pushNumber_24 hi hR.1 rfl rfl (Nat.le_of_ble_eq_true rfl) (by decide) ?_
    rintro _ f83 ⟨rfl, ⟨h86, h87⟩, k88⟩
    refine G_cast (st' := []) ?_ rfl rfl rfl rfl
    refine G_iinc_z hX (lv' := [(2, .int (zI (21 + (-7)))), (0, .ref (eA E i)), (1, .int (zI v))]) 0 rfl (by decide) rfl d_Ro_pushNumber_27 ?_
    refine G_goto hX (tgt := 3) d_Ro_pushNumber_30 rfl ?_
    refine G_cast (lv' := [(2, .int (zI 14)), (0, .ref (eA E i)), (1, .int (zI v))]) ?_ rfl rfl rfl rfl
    refine G_iload_n hX 0 rfl rfl d_Ro_pushNumber_3 ?_
    refine G_if_le_z hX (tgt := 33) d_Ro_pushNumber_4 rfl (by omega) (fun c89 => by exfalso; omega) (fun c90 => ?_)
    refine G_iload_n hX 2 rfl rfl d_Ro_pushNumber_7 ?_
    refine G_iload_n hX 0 rfl rfl d_Ro_pushNumber_8 ?_
    refine G_iushr hX (v := ((zI v).toUInt32 >>> ((zI 14).toUInt32 &&& Int32.toUInt32 31)).toInt32) rfl d_Ro_pushNumber_9 ?_
    refine G_top (show (((zI v).toUInt32 >>> ((zI 14).toUInt32 &&& Int32.toUInt32 31)).toInt32) = zI (v / 16384) from zI_ushr14 (by omega)) ?_
    refine G_if_eq_z hX (tgt := 27) d_Ro_pushNumber_10 rfl (by omega) (fun c91 => by exfalso; omega) (fun c92 => ?_)
    refine G_aload_n hX 1 rfl rfl d_Ro_pushNumber_13 ?_
    refine G_sipush hX (by decide) d_Ro_pushNumber_14 ?_
    refine G_iload_n hX 2 rfl rfl d_Ro_pushNumber_17 ?_
    refine G_iload_n hX 0 rfl rfl d_Ro_pushNumber_18 ?_
    refine G_iushr hX (v := ((zI v).toUInt32 >>> ((zI 14).toUInt32 &&& Int32.toUInt32 31)).toInt32) rfl d_Ro_pushNumber_19 ?_
    refine G_top (show (((zI v).toUInt32 >>> ((zI 14).toUInt32 &&& Int32.toUInt32 31)).toInt32) = zI (v / 16384) from zI_ushr14 (by omega)) ?_
    refine G_bipush hX (by decide) d_Ro_pushNumber_20 ?_
    refine G_iand hX d_Ro_pushNumber_22 ?_
    refine G_top (show (zI (v / 16384) &&& zI 127) = zI ((v / 16384) % 128) from zI_and127 _) ?_
    refine G_ior hX d_Ro_pushNumber_23 ?_
    refine G_top (show (zI 128 ||| zI ((v / 16384) % 128)) = zI (128 + ((v / 16384) % 128)) from zI_or128 (by omega)) ?_
    refine F_callV hX (st := []) (c_Ro_push E f83 i j n (uz g c (128 + ((v / 2097152) % 128))) (c + 1) (128 + ((v / 16384) % 128)) hi hj (by omega) ⟨h86, h87⟩ (by omega) (by omega)) cm_Ro_push im_Ro_push se_Ro_push rfl ml_Ro_17 d_Ro_pushNumber_24 hi h86 rfl rfl (Nat.le_of_ble_eq_true rfl) (by decide) ?_
    rintro _ f93 ⟨rfl, ⟨h96, h97⟩, k98⟩
    refine G_cast (st' := []) ?_ rfl rfl rfl rfl
    refine G_iinc_z hX (lv' := [(2, .int (zI (14 + (-7)))), (0, .ref (eA E i)), (1, .int (zI v))]) 0 rfl (by decide) rfl d_Ro_pushNumber_27 ?_
    refine G_goto hX (tgt := 3) d_Ro_pushNumber_30 rfl ?_
    refine G_cast (lv' := [(2, .int (zI 7)), (0, .ref (eA E i)), (1, .int (zI v))]) ?_ rfl rfl rfl rfl
    refine G_iload_n hX 0 rfl rfl d_Ro_pushNumber_3 ?_
    refine G_if_le_z hX (tgt := 33) d_Ro_pushNumber_4 rfl (by omega) (fun c99 => by exfalso; omega) (fun c100 => ?_)
    refine G_iload_n hX 2 rfl rfl d_Ro_pushNumber_7 ?_
    refine G_iload_n hX 0 rfl rfl d_Ro_pushNumber_8 ?_
    refine G_iushr hX (v := ((zI v).toUInt32 >>> ((zI 7).toUInt32 &&& Int32.toUInt32 31)).toInt32) rfl d_Ro_pushNumber_9 ?_
    refine G_top (show (((zI v).toUInt32 >>> ((zI 7).toUInt32 &&& Int32.toUInt32 31)).toInt32) = zI (v / 128) from zI_ushr7 (by omega)) ?_
    refine G_if_eq_z hX (tgt := 27) d_Ro_pushNumber_10 rfl (by omega) (fun c101 => by exfalso; omega) (fun c102 => ?_)
    refine G_aload_n hX 1 rfl rfl d_Ro_pushNumber_13 ?_
    refine G_sipush hX (by decide) d_Ro_pushNumber_14 ?_
    refine G_iload_n hX 2 rfl rfl d_Ro_pushNumber_17 ?_
    refine G_iload_n hX 0 rfl rfl d_Ro_pushNumber_18 ?_
    refine G_iushr hX (v := ((zI v).toUInt32 >>> ((zI 7).toUInt32 &&& Int32.toUInt32 31)).toInt32) rfl d_Ro_pushNumber_19 ?_
    refine G_top (show (((zI v).toUInt32 >>> ((zI 7).toUInt32 &&& Int32.toUInt32 31)).toInt32) = zI (v / 128) from zI_ushr7 (by omega)) ?_
    refine G_bipush hX (by decide) d_Ro_pushNumber_20 ?_
    refine G_iand hX d_Ro_pushNumber_22 ?_
    refine G_top (show (zI (v / 128) &&& zI 127) = zI ((v / 128) % 128) from zI_and127 _) ?_
    refine G_ior hX d_Ro_pushNumber_23 ?_
    refine G_top (show (zI 128 ||| zI ((v / 128) % 128)) = zI (128 + ((v / 128) % 128)) from zI_or128 (by omega)) ?_
    refine F_callV hX (st := []) (c_Ro_push E f93 i j n (uz (uz g c (128 + ((v / 2097152) % 128))) (c + 1) (128 + ((v / 16384) % 128))) ((c + 1) + 1) (128 + ((v / 128) % 128)) hi hj (by omega) ⟨h96, h97⟩ (by omega) (by omega)) cm_Ro_push im_Ro_push se_Ro_push rfl ml_Ro_17 d_Ro_pushNumber_24 hi h96 rfl rfl (Nat.le_of_ble_eq_true rfl) (by decide) ?_
    rintro _ f103 ⟨rfl, ⟨h106, h107⟩, k108⟩
    refine G_cast (st' := []) ?_ rfl rfl rfl rfl
    refine G_iinc_z hX (lv' := [(2, .int (zI (7 + (-7)))), (0, .ref (eA E i)), (1, .int (zI v))]) 0 rfl (by decide) rfl d_Ro_pushNumber_27 ?_
    refine G_goto hX (tgt := 3) d_Ro_pushNumber_30 rfl ?_
    refine G_cast (lv' := [(2, .int (zI 0)), (0, .ref (eA E i)), (1, .int (zI v))]) ?_ rfl rfl rfl rfl
    refine G_iload_n hX 0 rfl rfl d_Ro_pushNumber_3 ?_
    refine G_if_le_z hX (tgt := 33) d_Ro_pushNumber_4 rfl (by omega) (fun c109 => ?_) (fun c110 => by exfalso; omega)
    refine G_aload_n hX 1 rfl rfl d_Ro_pushNumber_33 ?_
    refine G_iload_n hX 2 rfl rfl d_Ro_pushNumber_34 ?_
    refine G_bipush hX (by decide) d_Ro_pushNumber_35 ?_
    refine G_iand hX d_Ro_pushNumber_37 ?_
    refine G_top (show (zI v &&& zI 127) = zI (v % 128) from zI_and127 _) ?_
    refine F_callV hX (st := []) (c_Ro_push E f103 i j n (uz (uz (uz g c (128 + ((v / 2097152) % 128))) (c + 1) (128 + ((v / 16384) % 128))) ((c + 1) + 1) (128 + ((v / 128) % 128))) (((c + 1) + 1) + 1) (v % 128) hi hj (by omega) ⟨h106, h107⟩ (by omega) (by omega)) cm_Ro_push im_Ro_push se_Ro_push rfl ml_Ro_17 d_Ro_pushNumber_38 hi h106 rfl rfl (Nat.le_of_ble_eq_true rfl) (by decide) ?_
    rintro _ f111 ⟨rfl, ⟨h114, h115⟩, k116⟩
    refine G_cast (st' := []) ?_ rfl rfl rfl rfl
    refine F_vret hX hE d_Ro_pushNumber_41 ⟨rfl, ⟨?_, ?_⟩, (Fr.tr (Fr.tr (Fr.tr (Fr.tr Fr.rf k88 (by simp)) k98 (by simp)) k108 (by simp)) k116 (by simp))⟩
    · rw [show c + wid v = (((c + 1) + 1) + 1) + 1 by omega]; exact h114
    · rw [h115]; congr 5; funext x; simp only [pz, uz, nby, hw9]; grind
theorem c_Ro_pushPart (E : EV) (f : Nat → va_E) (i j n : Nat) (g : Int → Int) (c : Int) (a0 n0 : Nat) (g0 : Int → Int) (p m : Int) (hi : i < NC) (hj : j < NC) (hij : i ≠ j) (hR : isR E f i j n g c) (hc : 0 ≤ c ∧ c ≤ n ∧ n ≤ 2000) (ha : a0 < NC) (hia : i ≠ a0) (h0 : f a0 = iz E n0 g0) (hb : 0 ≤ m ∧ 0 ≤ p ∧ p + m ≤ n0 ∧ c + m ≤ n ∧ n0 ≤ 2000) : CF yn_Ro_pushPart cd_Ro_pushPart 5 none 1 E [.ref (eA E i), .ref (eA E a0), .int (zI p), .int (zI m)] f (fun r f' => r = none ∧ isR E f' i j n (cz g0 g p c m) (c + m) ∧ Fr [i, j] f f') := by
  refine CF.of (by decide +kernel) (Nat.le_of_ble_eq_true rfl) fun X hX hE => ?_
  have hX : Ok E X "DeltaFerry$Row" "pushPart" cd_Ro_pushPart 5 none (rl 1) := hX
  refine G_cast (lv' := [(0, .ref (eA E i)), (1, .ref (eA E a0)), (2, .int (zI p)), (3, .int (zI m))]) ?_ rfl rfl rfl rfl
  refine G_iload_n hX 3 rfl rfl d_Ro_pushPart_0 ?_
  refine G_aload_n hX 0 rfl rfl d_Ro_pushPart_1 ?_
  refine F_callV hX (st := [.int (zI m)]) (c_Ro_left E f i j n g c hi hj (by omega) ⟨hR.1, hR.2⟩ (by omega)) cm_Ro_left im_Ro_left se_Ro_left rfl ml_Ro_21 d_Ro_pushPart_2 hi hR.1 rfl rfl (Nat.le_of_ble_eq_true rfl) (by decide) ?_
  rintro _ _ ⟨rfl, rfl⟩
  refine G_cast (st' := [.int (zI (((n : Nat) : Int) - c)), .int (zI m)]) ?_ rfl rfl rfl rfl
  refine F_min hX ml_Ro_25 kw_st_Math kj_Math kw_min (by decide) (Nat.le_of_ble_eq_true rfl) (by omega) d_Ro_pushPart_5 ?_
  refine G_top (show zI (if m ≤ ((n : Nat) : Int) - c then m else ((n : Nat) : Int) - c) = zI m from by rw [if_pos (by omega)]) ?_
  refine G_istore hX (lv' := [(4, .int (zI m)), (0, .ref (eA E i)), (1, .ref (eA E a0)), (2, .int (zI p)), (3, .int (zI m))]) (by decide) rfl d_Ro_pushPart_8 ?_
  refine G_aload_n hX 2 rfl rfl d_Ro_pushPart_10 ?_
  refine G_iload_n hX 3 rfl rfl d_Ro_pushPart_11 ?_
  refine G_aload_n hX 1 rfl rfl d_Ro_pushPart_12 ?_
  refine F_get hX fg_Ro_7 d_Ro_pushPart_13 i hi hR.1 rfl ?_
  refine G_aload_n hX 1 rfl rfl d_Ro_pushPart_16 ?_
  refine F_get hX fg_Ro_13 d_Ro_pushPart_17 i hi hR.1 rfl ?_
  refine G_iload hX 0 rfl d_Ro_pushPart_20 ?_
  refine F_acopy hX ml_Ro_31 kw_native kw_st_System kj_System d_Ro_pushPart_22 a0 j ha hj h0 hR.2 (by omega) (by decide) (Nat.le_of_ble_eq_true rfl) (fun f4 h5 k6 => ?_)
  refine G_aload_n hX 1 rfl rfl d_Ro_pushPart_25 ?_
  refine G_dup hX rfl d_Ro_pushPart_26 ?_
  have h7 : f4 i = ob 6 [.ref (eA E j), .int (zI c)] := (k6 i (by simp only [List.mem_cons, List.not_mem_nil, or_false]; omega)).trans hR.1
  refine F_get hX fg_Ro_13 d_Ro_pushPart_27 i hi h7 rfl ?_
  refine G_iload hX 0 rfl d_Ro_pushPart_30 ?_
  refine G_iadd_z hX d_Ro_pushPart_32 ?_
  refine F_put hX fg_Ro_13 fp_Ro_1 d_Ro_pushPart_33 i (fs' := [.ref (eA E j), .int (zI (c + m))]) hi h7 rfl rfl (Nat.le_of_ble_eq_true rfl) rfl (fun f8 h9 k10 => ?_)
  have h11 : f8 j = iz E n (cz g0 g p c m) := (k10 j (by simp only [List.mem_cons, List.not_mem_nil, or_false]; omega)).trans h5
  exact F_vret hX hE d_Ro_pushPart_36 ⟨rfl, ⟨h9, h11⟩, (Fr.tr (Fr.tr Fr.rf k6 (by simp)) k10 (by simp))⟩
theorem c_Ro_become (E : EV) (f : Nat → va_E) (i j n : Nat) (g : Int → Int) (c : Int) (o jo n0 : Nat) (g0 : Int → Int) (c0 : Int) (hi : i < NC) (hj : j < NC) (hij : i ≠ j) (hR : isR E f i j n g c) (hc : 0 ≤ c ∧ c ≤ n ∧ n ≤ 2000) (ho : o < NC) (hjo : jo < NC) (hio : i ≠ o) (hijo : i ≠ jo) (hO : isR E f o jo n0 g0 c0) (hb : 0 ≤ c0 ∧ c0 ≤ n0 ∧ c0 ≤ n ∧ n0 ≤ 2000) : CF yn_Ro_become cd_Ro_become 3 none 2 E [.ref (eA E i), .ref (eA E o)] f (fun r f' => r = none ∧ isR E f' i j n (cz g0 g 0 0 c0) c0 ∧ Fr [i, j] f f') := by
  refine CF.of (by decide +kernel) (Nat.le_of_ble_eq_true rfl) fun X hX hE => ?_
  have hX : Ok E X "DeltaFerry$Row" "become" cd_Ro_become 3 none (rl 2) := hX
  refine G_cast (lv' := [(0, .ref (eA E i)), (1, .ref (eA E o))]) ?_ rfl rfl rfl rfl
  refine G_aload_n hX 1 rfl rfl d_Ro_become_0 ?_
  refine F_get hX fg_Ro_13 d_Ro_become_1 o ho hO.1 rfl ?_
  refine G_istore_n hX (lv' := [(2, .int (zI c0)), (0, .ref (eA E i)), (1, .ref (eA E o))]) rfl (by decide) rfl d_Ro_become_4 ?_
  refine G_aload_n hX 1 rfl rfl d_Ro_become_5 ?_
  refine G_iconst hX d_Ro_become_6 ?_
  refine F_put hX fg_Ro_13 fp_Ro_1 d_Ro_become_7 i (fs' := [.ref (eA E j), .int (zI 0)]) hi hR.1 rfl rfl (Nat.le_of_ble_eq_true rfl) rfl (fun f1 h2 k3 => ?_)
  refine G_aload_n hX 1 rfl rfl d_Ro_become_10 ?_
  refine G_aload_n hX 2 rfl rfl d_Ro_become_11 ?_
  have h4 : f1 o = ob 6 [.ref (eA E jo), .int (zI c0)] := (k3 o (by simp only [List.mem_cons, List.not_mem_nil, or_false]; omega)).trans hO.1
  refine F_get hX fg_Ro_7 d_Ro_become_12 o ho h4 rfl ?_
  refine G_iconst hX d_Ro_become_15 ?_
  refine G_iload_n hX 0 rfl rfl d_Ro_become_16 ?_
  have h5 : f1 jo = iz E n0 g0 := (k3 jo (by simp only [List.mem_cons, List.not_mem_nil, or_false]; omega)).trans hO.2
  have h6 : f1 j = iz E n g := (k3 j (by simp only [List.mem_cons, List.not_mem_nil, or_false]; omega)).trans hR.2
  refine F_callV hX (st := []) (c_Ro_pushPart E f1 i j n g 0 jo n0 g0 0 c0 hi hj (by omega) ⟨h2, h6⟩ (by omega) hjo (by omega) h5 (by omega)) cm_Ro_pushPart im_Ro_pushPart se_Ro_pushPart rfl ml_Ro_37 d_Ro_become_17 hi h2 rfl rfl (Nat.le_of_ble_eq_true rfl) (by decide) ?_
  rintro _ f7 ⟨rfl, ⟨h10, h11⟩, k12⟩
  refine G_cast (st' := []) ?_ rfl rfl rfl rfl
  exact F_vret hX hE d_Ro_become_20 ⟨rfl, ⟨by rw [h10, Int.zero_add], h11⟩, (Fr.tr (Fr.tr Fr.rf k3 (by simp)) k12 (by simp))⟩
theorem c_Ro_become_self (E : EV) (f : Nat → va_E) (i j n : Nat) (g : Int → Int) (c : Int) (hi : i < NC) (hj : j < NC) (hij : i ≠ j) (hR : isR E f i j n g c) (hc : 0 ≤ c ∧ c ≤ n ∧ n ≤ 2000) : CF yn_Ro_become cd_Ro_become 3 none 2 E [.ref (eA E i), .ref (eA E i)] f (fun r f' => r = none ∧ isR E f' i j n (cz g g 0 0 c) c ∧ Fr [i, j] f f') := by
  refine CF.of (by decide +kernel) (Nat.le_of_ble_eq_true rfl) fun X hX hE => ?_
  have hX : Ok E X "DeltaFerry$Row" "become" cd_Ro_become 3 none (rl 2) := hX
  refine G_cast (lv' := [(0, .ref (eA E i)), (1, .ref (eA E i))]) ?_ rfl rfl rfl rfl
  refine G_aload_n hX 1 rfl rfl d_Ro_become_0 ?_
  refine F_get hX fg_Ro_13 d_Ro_become_1 i hi hR.1 rfl ?_
  refine G_istore_n hX (lv' := [(2, .int (zI c)), (0, .ref (eA E i)), (1, .ref (eA E i))]) rfl (by decide) rfl d_Ro_become_4 ?_
  refine G_aload_n hX 1 rfl rfl d_Ro_become_5 ?_
  refine G_iconst hX d_Ro_become_6 ?_
  refine F_put hX fg_Ro_13 fp_Ro_1 d_Ro_become_7 i (fs' := [.ref (eA E j), .int (zI 0)]) hi hR.1 rfl rfl (Nat.le_of_ble_eq_true rfl) rfl (fun f1 h2 k3 => ?_)
  refine G_aload_n hX 1 rfl rfl d_Ro_become_10 ?_
  refine G_aload_n hX 2 rfl rfl d_Ro_become_11 ?_
  refine F_get hX fg_Ro_7 d_Ro_become_12 i hi h2 rfl ?_
  refine G_iconst hX d_Ro_become_15 ?_
  refine G_iload_n hX 0 rfl rfl d_Ro_become_16 ?_
  have h4 : f1 j = iz E n g := (k3 j (by simp only [List.mem_cons, List.not_mem_nil, or_false]; omega)).trans hR.2
  refine F_callV hX (st := []) (c_Ro_pushPart E f1 i j n g 0 j n g 0 c hi hj (by omega) ⟨h2, h4⟩ (by omega) hj (by omega) h4 (by omega)) cm_Ro_pushPart im_Ro_pushPart se_Ro_pushPart rfl ml_Ro_37 d_Ro_become_17 hi h2 rfl rfl (Nat.le_of_ble_eq_true rfl) (by decide) ?_
  rintro _ f5 ⟨rfl, ⟨h8, h9⟩, k10⟩
  refine G_cast (st' := []) ?_ rfl rfl rfl rfl
  exact F_vret hX hE d_Ro_become_20 ⟨rfl, ⟨by rw [h8, Int.zero_add], h9⟩, (Fr.tr (Fr.tr Fr.rf k3 (by simp)) k10 (by simp))⟩
