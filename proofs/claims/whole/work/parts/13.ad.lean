/-! Arrays.fill, DeltaFerry$AddressRows: printed by wip/tools/m_ad.py -/
theorem d_fill_fill_0 : decode cd_fill 0 = .ok (.iconst 0, 1) := by decide +kernel
theorem d_fill_fill_1 : decode cd_fill 1 = .ok (.istore_n 2, 1) := by decide +kernel
theorem d_fill_fill_2 : decode cd_fill 2 = .ok (.aload_n 0, 1) := by decide +kernel
theorem d_fill_fill_3 : decode cd_fill 3 = .ok (.arraylength, 1) := by decide +kernel
theorem d_fill_fill_4 : decode cd_fill 4 = .ok (.istore_n 3, 1) := by decide +kernel
theorem d_fill_fill_5 : decode cd_fill 5 = .ok (.iload_n 2, 1) := by decide +kernel
theorem d_fill_fill_6 : decode cd_fill 6 = .ok (.iload_n 3, 1) := by decide +kernel
theorem d_fill_fill_7 : decode cd_fill 7 = .ok (.if_icmp .ge 13, 3) := by decide +kernel
theorem d_fill_fill_10 : decode cd_fill 10 = .ok (.aload_n 0, 1) := by decide +kernel
theorem d_fill_fill_11 : decode cd_fill 11 = .ok (.iload_n 2, 1) := by decide +kernel
theorem d_fill_fill_12 : decode cd_fill 12 = .ok (.iload_n 1, 1) := by decide +kernel
theorem d_fill_fill_13 : decode cd_fill 13 = .ok (.iastore, 1) := by decide +kernel
theorem d_fill_fill_14 : decode cd_fill 14 = .ok (.iinc 2 1, 3) := by decide +kernel
theorem d_fill_fill_17 : decode cd_fill 17 = .ok (.goto (-12), 3) := by decide +kernel
theorem d_fill_fill_20 : decode cd_fill 20 = .ok (.return_, 1) := by decide +kernel
def fl (g : Nat → Int32) (n : Nat) (v : Int32) : Nat → Int32 := fun k => if k < n then v else g k
theorem fl_s {g : Nat → Int32} {v : Int32} {t : Int} (h : 0 ≤ t) : fl g (t + 1).toNat v = upd (fl g t.toNat v) t.toNat v := by
  funext k
  simp only [fl, upd]
  grind
/-- a row of one number -/
def kz (g : Int → Int) (n v : Int) : Int → Int := fun k => if k < n then v else g k
theorem fl_kz {g : Int → Int} {n : Nat} {v : Int} : fl (zf g) n (zI v) = zf (kz g n v) := by
  funext k
  unfold fl zf kz
  by_cases h : k < n
  · rw [if_pos h, if_pos (by omega)]
  · rw [if_neg h, if_neg (by omega)]
theorem c_fill (E : EV) (f : Nat → va_E) (j n : Nat) (g : Nat → Int32) (v : Int32) (hj : j < NC) (hg : f j = ia E n g) (hn : n ≤ 2000) : CF yn_fill cd_fill 4 none 0 E [.ref (eA E j), .int v] f (fun r f' => r = none ∧ f' j = ia E n (fl g n v) ∧ Fr [j] f f') := by
  refine CF.of (by decide +kernel) (Nat.le_of_ble_eq_true rfl) fun X hX hE => ?_
  have hX : Ok E X "java/util/Arrays" "fill" cd_fill 4 none (rl 0) := hX
  refine G_cast (lv' := [(0, .ref (eA E j)), (1, .int v)]) ?_ rfl rfl rfl rfl
  refine G_iconst hX d_fill_fill_0 ?_
  refine G_istore_n hX (lv' := [(2, .int (zI 0)), (0, .ref (eA E j)), (1, .int v)]) rfl (by decide) rfl d_fill_fill_1 ?_
  refine G_aload_n hX 1 rfl rfl d_fill_fill_2 ?_
  refine F_alen hX d_fill_fill_3 j hj hg ?_
  refine G_istore_n hX (lv' := [(3, .int (zI ((n : Nat) : Int))), (2, .int (zI 0)), (0, .ref (eA E j)), (1, .int v)]) rfl (by decide) rfl d_fill_fill_4 ?_
  have loop1 : ∀ (q : Nat) (t : Int) (f2 : Nat → va_E), (n - t).toNat < q → 0 ≤ t ∧ t ≤ n → f2 j = ia E n (fl g t.toNat v) → Fr [j] f f2 → G E X 0 0 5 [(0, .ref (eA E j)), (1, .int v), (2, .int (zI t)), (3, .int (zI ((n : Nat) : Int)))] [] (wl E f2) := by
    intro q
    induction q with
    | zero => intro t f2 m4; exact absurd m4 (Nat.not_lt_zero _)
    | succ q ih5 =>
      intro t f2 m4 ht h6 k3
      refine G_iload_n hX 2 rfl rfl d_fill_fill_5 ?_
      refine G_iload_n hX 3 rfl rfl d_fill_fill_6 ?_
      refine G_icmp_ge_z hX (tgt := 20) d_fill_fill_7 rfl (by omega) (fun c7 => ?_) (fun c8 => ?_)
      · skip
        have et : t.toNat = n := by omega
        rw [et] at h6
        exact F_vret hX hE d_fill_fill_20 ⟨rfl, h6, (Fr.tr Fr.rf k3 (by simp))⟩
      · skip
        refine G_aload_n hX 0 rfl rfl d_fill_fill_10 ?_
        refine G_iload_n hX 2 rfl rfl d_fill_fill_11 ?_
        refine G_iload_n hX 1 rfl rfl d_fill_fill_12 ?_
        refine F_iast_r hX d_fill_fill_13 j hj h6 (by omega) (fun f9 h10 k11 => ?_)
        refine G_iinc_z hX (lv' := [(2, .int (zI (t + 1))), (0, .ref (eA E j)), (1, .int v), (3, .int (zI ((n : Nat) : Int)))]) 2 rfl (by decide) rfl d_fill_fill_14 ?_
        refine G_goto hX (tgt := 5) d_fill_fill_17 rfl ?_
        refine G_loc (lv' := [(0, .ref (eA E j)), (1, .int v), (2, .int (zI (t + 1))), (3, .int (zI ((n : Nat) : Int)))]) [1, 2, 0, 3] rfl ?_
        exact ih5 (t + 1) f9 (by omega) (by omega) (by rw [fl_s ht.1]; exact h10) (Fr.tr (Fr.tr Fr.rf k3 (by simp)) k11 (by simp))
  refine G_loc (lv' := [(0, .ref (eA E j)), (1, .int v), (2, .int (zI 0)), (3, .int (zI ((n : Nat) : Int)))]) [2, 3, 1, 0] rfl ?_
  exact loop1 (_ + 1) 0 f (Nat.lt_succ_self _) (by omega) (by rw [hg]; congr 4) Fr.rf
