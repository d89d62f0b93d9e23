/-! DeltaFerry$Cursor: printed by wip/tools/m_cur.py -/
def isB (g : Int → Int) : Prop := ∀ k, 0 ≤ g k ∧ g k < 256
/-- a cursor at cell i, on the cells j, at place p, up to e -/
def isC (E : EV) (f : Nat → va_E) (i j : Nat) (p e : Int) : Prop := f i = ob 1 [.ref (eA E j), .int (zI p), .int (zI e)]
def nxV (g : Int → Int) (p e : Int) : Int := if p < e then g p else -1
def nxP (p e : Int) : Int := if p < e then p + 1 else p
def numL (g : Int → Int) (e : Int) : Nat → Int → Int → Int × Int
  | 0, p, _ => (-1, p)
  | k + 1, p, v => if p < e then (if g p < 128 then (v * 128 + g p % 128, p + 1) else numL g e k (p + 1) (v * 128 + g p % 128)) else (-1, p)
theorem numL_end {g : Int → Int} {e p v t : Int} (h : 4 ≤ t ∨ e ≤ p) : numL g e (4 - t).toNat p v = (-1, p) := by
  cases hk : (4 - t).toNat with
  | zero => rfl
  | succ k =>
    unfold numL
    rw [if_neg (by omega)]
theorem numL_go {g : Int → Int} {e p v t : Int} (h : t < 4) (hp : p < e) (hb : 128 ≤ g p) : numL g e (4 - t).toNat p v = numL g e (4 - (t + 1)).toNat (p + 1) (v * 128 + g p % 128) := by
  rw [show (4 - t).toNat = (4 - (t + 1)).toNat + 1 by omega]
  show (if p < e then _ else _) = _
  rw [if_pos hp, if_neg (by omega)]
theorem numL_stop {g : Int → Int} {e p v t : Int} (h : t < 4) (hp : p < e) (hb : g p < 128) : numL g e (4 - t).toNat p v = (v * 128 + g p % 128, p + 1) := by
  rw [show (4 - t).toNat = (4 - (t + 1)).toNat + 1 by omega]
  show (if p < e then _ else _) = _
  rw [if_pos hp, if_pos hb]
theorem c_Cu_open (E : EV) (f : Nat → va_E) (i j : Nat) (v0 : Value) (x y : Int32) (p m : Int) (hi : i < NC) (h0 : f i = ob 1 [v0, .int x, .int y]) : CF yn_Cu_open cd_Cu_open 4 none 0 E [.ref (eA E i), .ref (eA E j), .int (zI p), .int (zI m)] f (fun r f' => r = none ∧ isC E f' i j p (p + m) ∧ Fr [i] f f') := by
  refine CF.of (by decide +kernel) (Nat.le_of_ble_eq_true rfl) fun X hX hE => ?_
  have hX : Ok E X "DeltaFerry$Cursor" "open" cd_Cu_open 4 none (rl 0) := hX
  refine G_cast (lv' := [(0, .ref (eA E i)), (1, .ref (eA E j)), (2, .int (zI p)), (3, .int (zI m))]) ?_ rfl rfl rfl rfl
  refine G_aload_n hX 0 rfl rfl d_Cu_open_0 ?_
  refine G_aload_n hX 1 rfl rfl d_Cu_open_1 ?_
  refine F_put hX fg_Cu_9 fp_Cu_0 d_Cu_open_2 i (fs' := [.ref (eA E j), .int x, .int y]) hi h0 rfl rfl (Nat.le_of_ble_eq_true rfl) rfl (fun f1 h2 k3 => ?_)
  refine G_aload_n hX 0 rfl rfl d_Cu_open_5 ?_
  refine G_iload_n hX 2 rfl rfl d_Cu_open_6 ?_
  refine F_put hX fg_Cu_15 fp_Cu_1 d_Cu_open_7 i (fs' := [.ref (eA E j), .int (zI p), .int y]) hi h2 rfl rfl (Nat.le_of_ble_eq_true rfl) rfl (fun f4 h5 k6 => ?_)
  refine G_aload_n hX 0 rfl rfl d_Cu_open_10 ?_
  refine G_iload_n hX 2 rfl rfl d_Cu_open_11 ?_
  refine G_iload_n hX 3 rfl rfl d_Cu_open_12 ?_
  refine G_iadd_z hX d_Cu_open_13 ?_
  refine F_put hX fg_Cu_19 fp_Cu_2 d_Cu_open_14 i (fs' := [.ref (eA E j), .int (zI p), .int (zI (p + m))]) hi h5 rfl rfl (Nat.le_of_ble_eq_true rfl) rfl (fun f7 h8 k9 => ?_)
  exact F_vret hX hE d_Cu_open_17 ⟨rfl, h8, (Fr.tr (Fr.tr (Fr.tr Fr.rf k3 (by simp)) k6 (by simp)) k9 (by simp))⟩
theorem c_Cu_left (E : EV) (f : Nat → va_E) (i j n : Nat) (g : Int → Int) (p e : Int) (hi : i < NC) (hj : j < NC) (hij : i ≠ j) (hC : isC E f i j p e) (hg : f j = iz E n g) (hp : 0 ≤ p ∧ p ≤ e ∧ e ≤ n ∧ n ≤ 2000) : CF yn_Cu_left cd_Cu_left 1 (some (.int)) 0 E [.ref (eA E i)] f (fun r f' => r = some (.int (zI (e - p))) ∧ f' = f) := by
  refine CF.of (by decide +kernel) (Nat.le_of_ble_eq_true rfl) fun X hX hE => ?_
  have hX : Ok E X "DeltaFerry$Cursor" "left" cd_Cu_left 1 (some (.int)) (rl 0) := hX
  refine G_cast (lv' := [(0, .ref (eA E i))]) ?_ rfl rfl rfl rfl
  refine G_aload_n hX 0 rfl rfl d_Cu_left_0 ?_
  refine F_get hX fg_Cu_19 d_Cu_left_1 i hi hC rfl ?_
  refine G_aload_n hX 0 rfl rfl d_Cu_left_4 ?_
  refine F_get hX fg_Cu_15 d_Cu_left_5 i hi hC rfl ?_
  refine G_isub_z hX d_Cu_left_8 ?_
  exact F_iret hX hE d_Cu_left_9 ⟨rfl, rfl⟩
theorem c_Cu_next (E : EV) (f : Nat → va_E) (i j n : Nat) (g : Int → Int) (p e : Int) (hi : i < NC) (hj : j < NC) (hij : i ≠ j) (hC : isC E f i j p e) (hg : f j = iz E n g) (hp : 0 ≤ p ∧ p ≤ e ∧ e ≤ n ∧ n ≤ 2000) : CF yn_Cu_next cd_Cu_next 1 (some (.int)) 0 E [.ref (eA E i)] f (fun r f' => r = some (.int (zI (nxV g p e))) ∧ isC E f' i j (nxP p e) e ∧ Fr [i] f f') := by
  refine CF.of (by decide +kernel) (Nat.le_of_ble_eq_true rfl) fun X hX hE => ?_
  have hX : Ok E X "DeltaFerry$Cursor" "next" cd_Cu_next 1 (some (.int)) (rl 0) := hX
  refine G_cast (lv' := [(0, .ref (eA E i))]) ?_ rfl rfl rfl rfl
  refine G_aload_n hX 0 rfl rfl d_Cu_next_0 ?_
  refine F_get hX fg_Cu_15 d_Cu_next_1 i hi hC rfl ?_
  refine G_aload_n hX 0 rfl rfl d_Cu_next_4 ?_
  refine F_get hX fg_Cu_19 d_Cu_next_5 i hi hC rfl ?_
  refine G_icmp_lt_z hX (tgt := 13) d_Cu_next_8 rfl (by omega) (fun c1 => ?_) (fun c2 => ?_)
  · skip
    refine G_aload_n hX 0 rfl rfl d_Cu_next_13 ?_
    refine G_dup hX rfl d_Cu_next_14 ?_
    refine F_get hX fg_Cu_15 d_Cu_next_15 i hi hC rfl ?_
    refine G_iconst hX d_Cu_next_18 ?_
    refine G_iadd_z hX d_Cu_next_19 ?_
    refine F_put hX fg_Cu_15 fp_Cu_1 d_Cu_next_20 i (fs' := [.ref (eA E j), .int (zI (p + 1)), .int (zI e)]) hi hC rfl rfl (Nat.le_of_ble_eq_true rfl) rfl (fun f3 h4 k5 => ?_)
    refine G_aload_n hX 0 rfl rfl d_Cu_next_23 ?_
    refine F_get hX fg_Cu_9 d_Cu_next_24 i hi h4 rfl ?_
    refine G_aload_n hX 0 rfl rfl d_Cu_next_27 ?_
    refine F_get hX fg_Cu_15 d_Cu_next_28 i hi h4 rfl ?_
    refine G_iconst hX d_Cu_next_31 ?_
    refine G_isub_z hX d_Cu_next_32 ?_
    have h6 : f3 j = iz E n g := (k5 j (by simp only [List.mem_cons, List.not_mem_nil, or_false]; omega)).trans hg
    refine F_iald hX d_Cu_next_33 j hj h6 (by omega) ?_
    skip
    exact F_iret hX hE d_Cu_next_34 ⟨by unfold nxV; rw [if_pos (by omega)]; rw [show p + 1 - 1 = p by omega], by unfold isC nxP; rw [if_pos (by omega)]; exact h4, (Fr.tr Fr.rf k5 (by simp))⟩
  · skip
    refine G_iconst hX d_Cu_next_11 ?_
    skip
    exact F_iret hX hE d_Cu_next_12 ⟨by unfold nxV; rw [if_neg (by omega)], by unfold isC nxP; rw [if_neg (by omega)]; exact hC, Fr.rf⟩
theorem c_Cu_number (E : EV) (f : Nat → va_E) (i j n : Nat) (g : Int → Int) (p e : Int) (hi : i < NC) (hj : j < NC) (hij : i ≠ j) (hC : isC E f i j p e) (hg : f j = iz E n g) (hp : 0 ≤ p ∧ p ≤ e ∧ e ≤ n ∧ n ≤ 2000) (hB : isB g) : CF yn_Cu_number cd_Cu_number 4 (some (.int)) 0 E [.ref (eA E i)] f (fun r f' => r = some (.int (zI (numL g e 4 p 0).1)) ∧ isC E f' i j (numL g e 4 p 0).2 e ∧ Fr [i] f f') := by
  refine CF.of (by decide +kernel) (Nat.le_of_ble_eq_true rfl) fun X hX hE => ?_
  have hX : Ok E X "DeltaFerry$Cursor" "number" cd_Cu_number 4 (some (.int)) (rl 0) := hX
  refine G_cast (lv' := [(0, .ref (eA E i))]) ?_ rfl rfl rfl rfl
  refine G_iconst hX d_Cu_number_0 ?_
  refine G_istore_n hX (lv' := [(1, .int (zI 0)), (0, .ref (eA E i))]) rfl (by decide) rfl d_Cu_number_1 ?_
  refine G_iconst hX d_Cu_number_2 ?_
  refine G_istore_n hX (lv' := [(2, .int (zI 0)), (1, .int (zI 0)), (0, .ref (eA E i))]) rfl (by decide) rfl d_Cu_number_3 ?_
  have loop1 : ∀ (q : Nat) (t : Int) (p1 : Int) (u : Int) (f2 : Nat → va_E), (4 - t).toNat < q → 0 ≤ t ∧ t ≤ 4 → 0 ≤ p1 ∧ p1 ≤ e → numL g e 4 p 0 = numL g e (4 - t).toNat p1 u → f2 i = ob 1 [.ref (eA E j), .int (zI p1), .int (zI e)] → Fr [i] f f2 → G E X 0 0 4 [(0, .ref (eA E i)), (1, .int (zI u)), (2, .int (zI t))] [] (wl E f2) := by
    intro q
    induction q with
    | zero => intro t p1 u f2 m4; exact absurd m4 (Nat.not_lt_zero _)
    | succ q ih5 =>
      intro t p1 u f2 m4 ht hp1 hs h6 k3
      refine G_iload_n hX 2 rfl rfl d_Cu_number_4 ?_
      refine G_iconst hX d_Cu_number_5 ?_
      refine G_icmp_ge_z hX (tgt := 67) d_Cu_number_6 rfl (by omega) (fun c7 => ?_) (fun c8 => ?_)
      · skip
        refine G_iconst hX d_Cu_number_67 ?_
        exact F_iret hX hE d_Cu_number_68 ⟨by rw [(hs.trans (numL_end (by omega)))], by rw [(hs.trans (numL_end (by omega)))]; exact h6, (Fr.tr Fr.rf k3 (by simp))⟩
      · skip
        refine G_aload_n hX 0 rfl rfl d_Cu_number_9 ?_
        refine F_get hX fg_Cu_15 d_Cu_number_10 i hi h6 rfl ?_
        refine G_aload_n hX 0 rfl rfl d_Cu_number_13 ?_
        refine F_get hX fg_Cu_19 d_Cu_number_14 i hi h6 rfl ?_
        refine G_icmp_ge_z hX (tgt := 67) d_Cu_number_17 rfl (by omega) (fun c9 => ?_) (fun c10 => ?_)
        · skip
          refine G_iconst hX d_Cu_number_67 ?_
          exact F_iret hX hE d_Cu_number_68 ⟨by rw [(hs.trans (numL_end (by omega)))], by rw [(hs.trans (numL_end (by omega)))]; exact h6, (Fr.tr Fr.rf k3 (by simp))⟩
        · skip
          refine G_aload_n hX 0 rfl rfl d_Cu_number_20 ?_
          refine F_get hX fg_Cu_9 d_Cu_number_21 i hi h6 rfl ?_
          refine G_aload_n hX 0 rfl rfl d_Cu_number_24 ?_
          refine F_get hX fg_Cu_15 d_Cu_number_25 i hi h6 rfl ?_
          have h11 : f2 j = iz E n g := (k3 j (by simp only [List.mem_cons, List.not_mem_nil, or_false]; omega)).trans hg
          refine F_iald hX d_Cu_number_28 j hj h11 (by omega) ?_
          have b12 := hB p1
          refine G_istore_n hX (lv' := [(3, .int (zI (g p1))), (0, .ref (eA E i)), (1, .int (zI u)), (2, .int (zI t))]) rfl (by decide) rfl d_Cu_number_29 ?_
          refine G_aload_n hX 1 rfl rfl d_Cu_number_30 ?_
          refine G_dup hX rfl d_Cu_number_31 ?_
          refine F_get hX fg_Cu_15 d_Cu_number_32 i hi h6 rfl ?_
          refine G_iconst hX d_Cu_number_35 ?_
          refine G_iadd_z hX d_Cu_number_36 ?_
          refine F_put hX fg_Cu_15 fp_Cu_1 d_Cu_number_37 i (fs' := [.ref (eA E j), .int (zI (p1 + 1)), .int (zI e)]) hi h6 rfl rfl (Nat.le_of_ble_eq_true rfl) rfl (fun f13 h14 k15 => ?_)
          refine G_iload_n hX 2 rfl rfl d_Cu_number_40 ?_
          refine G_sipush hX (by decide) d_Cu_number_41 ?_
          refine G_imul_z hX d_Cu_number_44 ?_
          refine G_iload_n hX 0 rfl rfl d_Cu_number_45 ?_
          refine G_sipush hX (by decide) d_Cu_number_46 ?_
          refine G_irem_z hX (by omega) d_Cu_number_49 ?_
          refine G_iadd_z hX d_Cu_number_50 ?_
          refine G_istore_n hX (lv' := [(1, .int (zI ((u * 128) + ((g p1) % 128)))), (3, .int (zI (g p1))), (0, .ref (eA E i)), (2, .int (zI t))]) rfl (by decide) rfl d_Cu_number_51 ?_
          refine G_iload_n hX 1 rfl rfl d_Cu_number_52 ?_
          refine G_sipush hX (by decide) d_Cu_number_53 ?_
          refine G_icmp_ge_z hX (tgt := 61) d_Cu_number_56 rfl (by omega) (fun c16 => ?_) (fun c17 => ?_)
          · skip
            refine G_iinc_z hX (lv' := [(2, .int (zI (t + 1))), (1, .int (zI ((u * 128) + ((g p1) % 128)))), (3, .int (zI (g p1))), (0, .ref (eA E i))]) 3 rfl (by decide) rfl d_Cu_number_61 ?_
            refine G_goto hX (tgt := 4) d_Cu_number_64 rfl ?_
            refine G_loc [3, 1, 0] rfl ?_
            exact ih5 (t + 1) (p1 + 1) (u * 128 + g p1 % 128) f13 (by omega) (by omega) (by omega) (hs.trans (numL_go (by omega) (by omega) (by omega))) h14 (Fr.tr (Fr.tr Fr.rf k3 (by simp)) k15 (by simp))
          · skip
            refine G_iload_n hX 0 rfl rfl d_Cu_number_59 ?_
            exact F_iret hX hE d_Cu_number_60 ⟨by rw [(hs.trans (numL_stop (by omega) (by omega) (by omega)))], by rw [(hs.trans (numL_stop (by omega) (by omega) (by omega)))]; exact h14, (Fr.tr (Fr.tr Fr.rf k3 (by simp)) k15 (by simp))⟩
  refine G_loc [2, 1, 0] rfl ?_
  exact loop1 (_ + 1) 0 p 0 f (Nat.lt_succ_self _) (by omega) (by omega) rfl hC Fr.rf
