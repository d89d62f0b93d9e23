/-! DeltaFerry$Plan: printed by wip/tools/m_pl.py -/
/-- a plan: types, sizes, addresses, numbers, how many -/
abbrev PS : Type := (Int → Int) × (Int → Int) × (Int → Int) × (Int → Int) × Int
abbrev pT (P : PS) : Int → Int := P.1
abbrev pS (P : PS) : Int → Int := P.2.1
abbrev pA (P : PS) : Int → Int := P.2.2.1
abbrev pN (P : PS) : Int → Int := P.2.2.2.1
abbrev pC (P : PS) : Int := P.2.2.2.2
def isPl (E : EV) (f : Nat → va_E) (P : PS) (md w s : Int) : Prop := f 22 = ob 4 [.ref (eA E 23), .ref (eA E 24), .ref (eA E 25), .ref (eA E 26), .int (zI md), .int (zI (pC P)), .int (zI w), .int (zI s)] ∧ f 23 = iz E 300 (pT P) ∧ f 24 = iz E 300 (pS P) ∧ f 25 = iz E 300 (pA P) ∧ f 26 = iz E 300 (pN P)
def plB (P : PS) : Prop := ∀ k, (0 ≤ pT P k ∧ pT P k ≤ 3) ∧ (0 ≤ pS P k ∧ pS P k ≤ 300) ∧ (-1 ≤ pA P k ∧ pA P k ≤ 700) ∧ 0 ≤ pN P k ∧ pN P k ≤ 300
def plApp (P : PS) (t n a w : Int) : PS := (uz (pT P) (pC P) t, uz (pS P) (pC P) n, uz (pA P) (pC P) a, uz (pN P) (pC P) w, pC P + 1)
abbrev goP (P : PS) (t a w : Int) : Prop := 0 < pC P ∧ pT P (pC P - 1) = t ∧ pN P (pC P - 1) = w ∧ (t = 1 ∨ pA P (pC P - 1) + pS P (pC P - 1) = a)
def plExt (P : PS) (t n a w : Int) : PS := if goP P t a w then (pT P, uz (pS P) (pC P - 1) (pS P (pC P - 1) + n), pA P, pN P, pC P) else plApp P t n a w
/-- the plan fits what was done up to x -/
def plOK (P : PS) (x : Int) : Prop := 0 ≤ pC P ∧ pC P ≤ x ∧ (0 < pC P → pS P (pC P - 1) ≤ x) ∧ plB P
theorem plOK_ext {P : PS} {x t n a w : Int} (h : plOK P x) (hn : 1 ≤ n) (hx : x + n ≤ 300) (ht : 0 ≤ t ∧ t ≤ 3) (ha : -1 ≤ a ∧ a ≤ 700) (hw : 0 ≤ w ∧ w ≤ 300) (h0 : 0 ≤ x) : plOK (plExt P t n a w) (x + n) := by
  obtain ⟨h1, h2, h3, h4⟩ := h
  unfold plExt
  split
  · rename_i h5
    have h6 := h3 h5.1
    refine ⟨h1, ?_, ?_, ?_⟩
    · show pC P ≤ _; omega
    · intro _; show uz _ _ _ (pC P - 1) ≤ _; simp only [uz, if_true]; omega
    · intro k
      have h7 := h4 k
      have h8 := h4 (pC P - 1)
      refine ⟨h7.1, ?_, h7.2.2⟩
      show 0 ≤ uz _ _ _ k ∧ uz _ _ _ k ≤ 300
      simp only [uz]
      split <;> omega
  · refine ⟨?_, ?_, ?_, ?_⟩
    · show 0 ≤ pC P + 1; omega
    · show pC P + 1 ≤ _; omega
    · intro _; show uz _ _ _ (pC P + 1 - 1) ≤ _; simp only [uz, Int.add_sub_cancel, if_true]; omega
    · intro k
      have h7 := h4 k
      refine ⟨?_, ?_, ?_, ?_⟩
      · show 0 ≤ uz _ _ _ k ∧ uz _ _ _ k ≤ _; simp only [uz]; split <;> omega
      · show 0 ≤ uz _ _ _ k ∧ uz _ _ _ k ≤ _; simp only [uz]; split <;> omega
      · show -1 ≤ uz _ _ _ k ∧ uz _ _ _ k ≤ _; simp only [uz]; split <;> omega
      · show 0 ≤ uz _ _ _ k ∧ uz _ _ _ k ≤ _; simp only [uz]; split <;> omega
/-- how much of [x, e) lies in x's window -/
def wpt (w x e : Int) : Int := (if e ≤ (x / w + 1) * w then e else (x / w + 1) * w) - x
theorem wpt_b {w x e : Int} (hw : 0 < w) (h : x < e) : 1 ≤ wpt w x e ∧ x + wpt w x e ≤ e := by
  have h1 := Int.emod_add_mul_ediv x w
  have h2 := Int.emod_lt_of_pos x hw
  have h3 : (x / w + 1) * w = w * (x / w) + w := by rw [Int.add_mul, Int.mul_comm]; omega
  unfold wpt
  split <;> omega
/-- bytes of NEW from x to e go into the plan, cut where windows end; a: the address of 'x0' -/
def exL (w t x0 a e : Int) : Nat → Int → PS → PS
  | 0, _, P => P
  | k + 1, x, P => if x < e then exL w t x0 a e k (x + wpt w x e) (plExt P t (wpt w x e) (if t = 3 then a + x - x0 else -1) (x / w)) else P
def ext (P : PS) (w t x0 n a : Int) : PS := exL w t x0 a (x0 + n) n.toNat x0 P
theorem c_Pl_open (E : EV) (f : Nat → va_E) (P : PS) (md w s : Int) (w1 s1 : Int) (hP : isPl E f P md w s) : CF yn_Pl_open cd_Pl_open 3 none 0 E [.ref (eA E 22), .int (zI w1), .int (zI s1)] f (fun r f' => r = none ∧ isPl E f' (pT P, pS P, pA P, pN P, 0) 1 w1 s1 ∧ Fr [22] f f') := by
  refine CF.of (by decide +kernel) (Nat.le_of_ble_eq_true rfl) fun X hX hE => ?_
  have hX : Ok E X "DeltaFerry$Plan" "open" cd_Pl_open 3 none (rl 0) := hX
  refine G_cast (lv' := [(0, .ref (eA E 22)), (1, .int (zI w1)), (2, .int (zI s1))]) ?_ rfl rfl rfl rfl
  refine G_aload_n hX 0 rfl rfl d_Pl_open_0 ?_
  refine G_iload_n hX 1 rfl rfl d_Pl_open_1 ?_
  refine F_put hX fg_Pl_24 fp_Pl_6 d_Pl_open_2 22 (fs' := [.ref (eA E 23), .ref (eA E 24), .ref (eA E 25), .ref (eA E 26), .int (zI md), .int (zI (pC P)), .int (zI w1), .int (zI s)]) (by decide) hP.1 rfl rfl (Nat.le_of_ble_eq_true rfl) rfl (fun f1 h2 k3 => ?_)
  refine G_aload_n hX 0 rfl rfl d_Pl_open_5 ?_
  refine G_iload_n hX 2 rfl rfl d_Pl_open_6 ?_
  refine F_put hX fg_Pl_28 fp_Pl_7 d_Pl_open_7 22 (fs' := [.ref (eA E 23), .ref (eA E 24), .ref (eA E 25), .ref (eA E 26), .int (zI md), .int (zI (pC P)), .int (zI w1), .int (zI s1)]) (by decide) h2 rfl rfl (Nat.le_of_ble_eq_true rfl) rfl (fun f4 h5 k6 => ?_)
  refine G_aload_n hX 0 rfl rfl d_Pl_open_10 ?_
  refine G_iconst hX d_Pl_open_11 ?_
  refine F_put hX fg_Pl_31 fp_Pl_4 d_Pl_open_12 22 (fs' := [.ref (eA E 23), .ref (eA E 24), .ref (eA E 25), .ref (eA E 26), .int (zI 1), .int (zI (pC P)), .int (zI w1), .int (zI s1)]) (by decide) h5 (by decide) (by decide) (Nat.le_of_ble_eq_true rfl) rfl (fun f7 h8 k9 => ?_)
  refine G_aload_n hX 0 rfl rfl d_Pl_open_15 ?_
  refine G_iconst hX d_Pl_open_16 ?_
  refine F_put hX fg_Pl_35 fp_Pl_5 d_Pl_open_17 22 (fs' := [.ref (eA E 23), .ref (eA E 24), .ref (eA E 25), .ref (eA E 26), .int (zI 1), .int (zI 0), .int (zI w1), .int (zI s1)]) (by decide) h8 rfl rfl (Nat.le_of_ble_eq_true rfl) rfl (fun f10 h11 k12 => ?_)
  have h13 : f10 23 = iz E 300 (pT P) := (k12 23 (by decide)).trans ((k9 23 (by decide)).trans ((k6 23 (by decide)).trans ((k3 23 (by decide)).trans hP.2.1)))
  have h14 : f10 24 = iz E 300 (pS P) := (k12 24 (by decide)).trans ((k9 24 (by decide)).trans ((k6 24 (by decide)).trans ((k3 24 (by decide)).trans hP.2.2.1)))
  have h15 : f10 25 = iz E 300 (pA P) := (k12 25 (by decide)).trans ((k9 25 (by decide)).trans ((k6 25 (by decide)).trans ((k3 25 (by decide)).trans hP.2.2.2.1)))
  have h16 : f10 26 = iz E 300 (pN P) := (k12 26 (by decide)).trans ((k9 26 (by decide)).trans ((k6 26 (by decide)).trans ((k3 26 (by decide)).trans hP.2.2.2.2)))
  exact F_vret hX hE d_Pl_open_20 ⟨rfl, ⟨h11, h13, h14, h15, h16⟩, (Fr.tr (Fr.tr (Fr.tr (Fr.tr Fr.rf k3 (by decide)) k6 (by decide)) k9 (by decide)) k12 (by decide))⟩
theorem c_Pl_append (E : EV) (f : Nat → va_E) (P : PS) (md w s : Int) (t n a k : Int) (hP : isPl E f P md w s) (hc : 0 ≤ pC P ∧ pC P < 300) : CF yn_Pl_append cd_Pl_append 5 none 0 E [.ref (eA E 22), .int (zI t), .int (zI n), .int (zI a), .int (zI k)] f (fun r f' => r = none ∧ isPl E f' (plApp P t n a k) md w s ∧ Fr [22, 23, 24, 25, 26] f f') := by
  refine CF.of (by decide +kernel) (Nat.le_of_ble_eq_true rfl) fun X hX hE => ?_
  have hX : Ok E X "DeltaFerry$Plan" "append" cd_Pl_append 5 none (rl 0) := hX
  refine G_cast (lv' := [(0, .ref (eA E 22)), (1, .int (zI t)), (2, .int (zI n)), (3, .int (zI a)), (4, .int (zI k))]) ?_ rfl rfl rfl rfl
  refine G_aload_n hX 0 rfl rfl d_Pl_append_0 ?_
  refine F_get hX fg_Pl_35 d_Pl_append_1 22 (by decide) hP.1 rfl ?_
  refine G_sipush hX (by decide) d_Pl_append_4 ?_
  refine G_icmp_ge_z hX (tgt := 61) d_Pl_append_7 rfl (by omega) (fun c1 => by exfalso; omega) (fun c2 => ?_)
  refine G_aload_n hX 0 rfl rfl d_Pl_append_10 ?_
  refine F_get hX fg_Pl_9 d_Pl_append_11 22 (by decide) hP.1 rfl ?_
  refine G_aload_n hX 0 rfl rfl d_Pl_append_14 ?_
  refine F_get hX fg_Pl_35 d_Pl_append_15 22 (by decide) hP.1 rfl ?_
  refine G_iload_n hX 1 rfl rfl d_Pl_append_18 ?_
  refine F_iast hX d_Pl_append_19 23 (by decide) hP.2.1 (by omega) (fun f3 h4 k5 => ?_)
  refine G_aload_n hX 0 rfl rfl d_Pl_append_20 ?_
  have h6 : f3 22 = ob 4 [.ref (eA E 23), .ref (eA E 24), .ref (eA E 25), .ref (eA E 26), .int (zI md), .int (zI (pC P)), .int (zI w), .int (zI s)] := (k5 22 (by decide)).trans hP.1
  refine F_get hX fg_Pl_15 d_Pl_append_21 22 (by decide) h6 rfl ?_
  refine G_aload_n hX 0 rfl rfl d_Pl_append_24 ?_
  refine F_get hX fg_Pl_35 d_Pl_append_25 22 (by decide) h6 rfl ?_
  refine G_iload_n hX 2 rfl rfl d_Pl_append_28 ?_
  have h7 : f3 24 = iz E 300 (pS P) := (k5 24 (by decide)).trans hP.2.2.1
  refine F_iast hX d_Pl_append_29 24 (by decide) h7 (by omega) (fun f8 h9 k10 => ?_)
  refine G_aload_n hX 0 rfl rfl d_Pl_append_30 ?_
  have h11 : f8 22 = ob 4 [.ref (eA E 23), .ref (eA E 24), .ref (eA E 25), .ref (eA E 26), .int (zI md), .int (zI (pC P)), .int (zI w), .int (zI s)] := (k10 22 (by decide)).trans h6
  refine F_get hX fg_Pl_18 d_Pl_append_31 22 (by decide) h11 rfl ?_
  refine G_aload_n hX 0 rfl rfl d_Pl_append_34 ?_
  refine F_get hX fg_Pl_35 d_Pl_append_35 22 (by decide) h11 rfl ?_
  refine G_iload_n hX 3 rfl rfl d_Pl_append_38 ?_
  have h12 : f8 25 = iz E 300 (pA P) := (k10 25 (by decide)).trans ((k5 25 (by decide)).trans hP.2.2.2.1)
  refine F_iast hX d_Pl_append_39 25 (by decide) h12 (by omega) (fun f13 h14 k15 => ?_)
  refine G_aload_n hX 0 rfl rfl d_Pl_append_40 ?_
  have h16 : f13 22 = ob 4 [.ref (eA E 23), .ref (eA E 24), .ref (eA E 25), .ref (eA E 26), .int (zI md), .int (zI (pC P)), .int (zI w), .int (zI s)] := (k15 22 (by decide)).trans h11
  refine F_get hX fg_Pl_21 d_Pl_append_41 22 (by decide) h16 rfl ?_
  refine G_aload_n hX 0 rfl rfl d_Pl_append_44 ?_
  refine F_get hX fg_Pl_35 d_Pl_append_45 22 (by decide) h16 rfl ?_
  refine G_iload hX 4 rfl d_Pl_append_48 ?_
  have h17 : f13 26 = iz E 300 (pN P) := (k15 26 (by decide)).trans ((k10 26 (by decide)).trans ((k5 26 (by decide)).trans hP.2.2.2.2))
  refine F_iast hX d_Pl_append_50 26 (by decide) h17 (by omega) (fun f18 h19 k20 => ?_)
  refine G_aload_n hX 0 rfl rfl d_Pl_append_51 ?_
  refine G_dup hX rfl d_Pl_append_52 ?_
  have h21 : f18 22 = ob 4 [.ref (eA E 23), .ref (eA E 24), .ref (eA E 25), .ref (eA E 26), .int (zI md), .int (zI (pC P)), .int (zI w), .int (zI s)] := (k20 22 (by decide)).trans h16
  refine F_get hX fg_Pl_35 d_Pl_append_53 22 (by decide) h21 rfl ?_
  refine G_iconst hX d_Pl_append_56 ?_
  refine G_iadd_z hX d_Pl_append_57 ?_
  refine F_put hX fg_Pl_35 fp_Pl_5 d_Pl_append_58 22 (fs' := [.ref (eA E 23), .ref (eA E 24), .ref (eA E 25), .ref (eA E 26), .int (zI md), .int (zI ((pC P) + 1)), .int (zI w), .int (zI s)]) (by decide) h21 rfl rfl (Nat.le_of_ble_eq_true rfl) rfl (fun f22 h23 k24 => ?_)
  have h25 : f22 23 = iz E 300 (uz (pT P) (pC P) t) := (k24 23 (by decide)).trans ((k20 23 (by decide)).trans ((k15 23 (by decide)).trans ((k10 23 (by decide)).trans h4)))
  have h26 : f22 24 = iz E 300 (uz (pS P) (pC P) n) := (k24 24 (by decide)).trans ((k20 24 (by decide)).trans ((k15 24 (by decide)).trans h9))
  have h27 : f22 25 = iz E 300 (uz (pA P) (pC P) a) := (k24 25 (by decide)).trans ((k20 25 (by decide)).trans h14)
  have h28 : f22 26 = iz E 300 (uz (pN P) (pC P) k) := (k24 26 (by decide)).trans h19
  exact F_vret hX hE d_Pl_append_61 ⟨rfl, ⟨h23, h25, h26, h27, h28⟩, (Fr.tr (Fr.tr (Fr.tr (Fr.tr (Fr.tr Fr.rf k5 (by decide)) k10 (by decide)) k15 (by decide)) k20 (by decide)) k24 (by decide))⟩
theorem c_Pl_goesOn (E : EV) (f : Nat → va_E) (P : PS) (md w s : Int) (t a k : Int) (hP : isPl E f P md w s) (hc : 0 ≤ pC P ∧ pC P ≤ 300) (hB : plB P) (ht : 0 ≤ t ∧ t ≤ 3) (ha : -1 ≤ a ∧ a ≤ 700) (hk : 0 ≤ k ∧ k ≤ 300) : CF yn_Pl_goesOn cd_Pl_goesOn 5 (some (.boolean)) 0 E [.ref (eA E 22), .int (zI t), .int (zI a), .int (zI k)] f (fun r f' => r = some (.int (zI (if goP P t a k then 1 else 0))) ∧ f' = f) := by
  refine CF.of (by decide +kernel) (Nat.le_of_ble_eq_true rfl) fun X hX hE => ?_
  have hX : Ok E X "DeltaFerry$Plan" "goesOn" cd_Pl_goesOn 5 (some (.boolean)) (rl 0) := hX
  refine G_cast (lv' := [(0, .ref (eA E 22)), (1, .int (zI t)), (2, .int (zI a)), (3, .int (zI k))]) ?_ rfl rfl rfl rfl
  have hb1 := hB (pC P - 1)
  refine G_aload_n hX 0 rfl rfl d_Pl_goesOn_0 ?_
  refine F_get hX fg_Pl_35 d_Pl_goesOn_1 22 (by decide) hP.1 rfl ?_
  refine G_iconst hX d_Pl_goesOn_4 ?_
  refine G_isub_z hX d_Pl_goesOn_5 ?_
  refine G_istore hX (lv' := [(4, .int (zI ((pC P) - 1))), (0, .ref (eA E 22)), (1, .int (zI t)), (2, .int (zI a)), (3, .int (zI k))]) (by decide) rfl d_Pl_goesOn_6 ?_
  refine G_iload hX 0 rfl d_Pl_goesOn_8 ?_
  refine G_if_lt_z hX (tgt := 35) d_Pl_goesOn_10 rfl (by omega) (fun c1 => ?_) (fun c2 => ?_)
  · skip
    refine G_iconst hX d_Pl_goesOn_35 ?_
    exact F_zret hX hE (by decide) d_Pl_goesOn_36 ⟨by rw [if_neg (by omega)], rfl⟩
  · skip
    refine G_aload_n hX 1 rfl rfl d_Pl_goesOn_13 ?_
    refine F_get hX fg_Pl_9 d_Pl_goesOn_14 22 (by decide) hP.1 rfl ?_
    refine G_iload hX 0 rfl d_Pl_goesOn_17 ?_
    refine F_iald hX d_Pl_goesOn_19 23 (by decide) hP.2.1 (by omega) ?_
    refine G_iload_n hX 2 rfl rfl d_Pl_goesOn_20 ?_
    refine G_icmp_ne_z hX (tgt := 35) d_Pl_goesOn_21 rfl (by omega) (fun c3 => ?_) (fun c4 => ?_)
    · skip
      refine G_iconst hX d_Pl_goesOn_35 ?_
      exact F_zret hX hE (by decide) d_Pl_goesOn_36 ⟨by rw [if_neg (by omega)], rfl⟩
    · skip
      refine G_aload_n hX 1 rfl rfl d_Pl_goesOn_24 ?_
      refine F_get hX fg_Pl_21 d_Pl_goesOn_25 22 (by decide) hP.1 rfl ?_
      refine G_iload hX 0 rfl d_Pl_goesOn_28 ?_
      refine F_iald hX d_Pl_goesOn_30 26 (by decide) hP.2.2.2.2 (by omega) ?_
      refine G_iload_n hX 4 rfl rfl d_Pl_goesOn_31 ?_
      refine G_icmp_eq_z hX (tgt := 37) d_Pl_goesOn_32 rfl (by omega) (fun c5 => ?_) (fun c6 => ?_)
      · skip
        refine G_iload_n hX 2 rfl rfl d_Pl_goesOn_37 ?_
        refine G_iconst hX d_Pl_goesOn_38 ?_
        refine G_icmp_eq_z hX (tgt := 61) d_Pl_goesOn_39 rfl (by omega) (fun c7 => ?_) (fun c8 => ?_)
        · skip
          refine G_iconst hX d_Pl_goesOn_61 ?_
          refine G_goto hX (tgt := 66) d_Pl_goesOn_62 rfl ?_
          exact F_zret hX hE (by decide) d_Pl_goesOn_66 ⟨by rw [if_pos (by omega)], rfl⟩
        · skip
          refine G_aload_n hX 1 rfl rfl d_Pl_goesOn_42 ?_
          refine F_get hX fg_Pl_18 d_Pl_goesOn_43 22 (by decide) hP.1 rfl ?_
          refine G_iload hX 0 rfl d_Pl_goesOn_46 ?_
          refine F_iald hX d_Pl_goesOn_48 25 (by decide) hP.2.2.2.1 (by omega) ?_
          refine G_aload_n hX 1 rfl rfl d_Pl_goesOn_49 ?_
          refine F_get hX fg_Pl_15 d_Pl_goesOn_50 22 (by decide) hP.1 rfl ?_
          refine G_iload hX 0 rfl d_Pl_goesOn_53 ?_
          refine F_iald hX d_Pl_goesOn_55 24 (by decide) hP.2.2.1 (by omega) ?_
          refine G_iadd_z hX d_Pl_goesOn_56 ?_
          refine G_iload_n hX 3 rfl rfl d_Pl_goesOn_57 ?_
          refine G_icmp_ne_z hX (tgt := 65) d_Pl_goesOn_58 rfl (by omega) (fun c9 => ?_) (fun c10 => ?_)
          · skip
            refine G_iconst hX d_Pl_goesOn_65 ?_
            exact F_zret hX hE (by decide) d_Pl_goesOn_66 ⟨by rw [if_neg (by omega)], rfl⟩
          · skip
            refine G_iconst hX d_Pl_goesOn_61 ?_
            refine G_goto hX (tgt := 66) d_Pl_goesOn_62 rfl ?_
            exact F_zret hX hE (by decide) d_Pl_goesOn_66 ⟨by rw [if_pos (by omega)], rfl⟩
      · skip
        refine G_iconst hX d_Pl_goesOn_35 ?_
        exact F_zret hX hE (by decide) d_Pl_goesOn_36 ⟨by rw [if_neg (by omega)], rfl⟩
