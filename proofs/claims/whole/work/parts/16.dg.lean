/-! DeltaFerry$Digester: printed by wip/tools/m_dg.py -/
abbrev S4 : Type := Int32 × Int32 × Int32 × Int32
def m4 (s : S4) : Nat → Int32 := fun k => if k = 0 then s.1 else if k = 1 then s.2.1 else if k = 2 then s.2.2.1 else s.2.2.2
def mxF (r : Int) (b c d : Int32) : Int32 := if r = 0 then (b &&& c) ||| ((b ^^^ zI (-1)) &&& d) else if r = 1 then (d &&& b) ||| ((d ^^^ zI (-1)) &&& c) else if r = 2 then (b ^^^ c) ^^^ d else c ^^^ (b ||| (d ^^^ zI (-1)))
def wdF (i : Int) : Int := if i / 16 = 0 then i else if i / 16 = 1 then (5 * i + 1) % 16 else if i / 16 = 2 then (3 * i + 5) % 16 else 7 * i % 16
theorem wdF_b {i : Int} (h : 0 ≤ i ∧ i < 64) : 0 ≤ wdF i ∧ wdF i < 16 := by
  unfold wdF
  repeat (first | omega | split)
def rtF (x t : Int32) : Int32 := (x <<< (t &&& 31)) ||| ((x.toUInt32 >>> ((zI 32 - t).toUInt32 &&& Int32.toUInt32 31)).toInt32)
def m5S (wd : Nat → Int32) (i : Int) (s : S4) : S4 := (s.2.2.2, s.2.1 + rtF (s.1 + mxF (i / 16) s.2.1 s.2.2.1 s.2.2.2 + kt_K.getD i.toNat 0 + wd (wdF i).toNat) (kt_T.getD (i / 16 * 4 + i % 4).toNat 0), s.2.1, s.2.2.1)
def m5L (wd : Nat → Int32) (s : S4) : Nat → S4
  | 0 => s
  | k + 1 => m5S wd k (m5L wd s k)
theorem m5L_s {wd : Nat → Int32} {s : S4} {t : Int} (h : 0 ≤ t) : m5L wd s (t + 1).toNat = m5S wd t (m5L wd s t.toNat) := by
  rw [show (t + 1).toNat = t.toNat + 1 by omega]
  show m5S wd (t.toNat : Int) _ = _
  rw [Int.toNat_of_nonneg h]
def m5A (s t : S4) : S4 := (s.1 + t.1, s.2.1 + t.2.1, s.2.2.1 + t.2.2.1, s.2.2.2 + t.2.2.2)
def m5B (wd : Nat → Int32) (s : S4) : S4 := m5A s (m5L wd s 64)
/-- a digester at i, its state at a, its words at b -/
def isD (E : EV) (f : Nat → va_E) (i a b : Nat) (s wd : Nat → Int32) : Prop := f i = ob 2 [.ref (eA E a), .ref (eA E b)] ∧ f a = ia E 4 s ∧ f b = ia E 16 wd
theorem c_Dg_mixOf (E : EV) (f : Nat → va_E) (r : Int) (b c d : Int32) (hr : 0 ≤ r ∧ r ≤ 3) : CF yn_Dg_mixOf cd_Dg_mixOf 4 (some (.int)) 0 E [.int (zI r), .int b, .int c, .int d] f (fun r0 f' => r0 = some (.int (mxF r b c d)) ∧ f' = f) := by
  refine CF.of (by decide +kernel) (Nat.le_of_ble_eq_true rfl) fun X hX hE => ?_
  have hX : Ok E X "DeltaFerry$Digester" "mixOf" cd_Dg_mixOf 4 (some (.int)) (rl 0) := hX
  refine G_cast (lv' := [(0, .int (zI r)), (1, .int b), (2, .int c), (3, .int d)]) ?_ rfl rfl rfl rfl
  rcases (show r = 0 ∨ r = 1 ∨ r = 2 ∨ r = 3 by omega) with rfl | rfl | rfl | rfl
  · skip
    refine G_iload_n hX 0 rfl rfl d_Dg_mixOf_0 ?_
    refine G_tblIn hX (tgt := 28) d_Dg_mixOf_1 (by decide) (by decide) (off := 27) (by decide) rfl ?_
    refine G_iload_n hX 1 rfl rfl d_Dg_mixOf_28 ?_
    refine G_iload_n hX 2 rfl rfl d_Dg_mixOf_29 ?_
    refine G_iand hX d_Dg_mixOf_30 ?_
    refine G_iload_n hX 1 rfl rfl d_Dg_mixOf_31 ?_
    refine G_iconst hX d_Dg_mixOf_32 ?_
    refine G_ixor hX d_Dg_mixOf_33 ?_
    refine G_iload_n hX 3 rfl rfl d_Dg_mixOf_34 ?_
    refine G_iand hX d_Dg_mixOf_35 ?_
    refine G_ior hX d_Dg_mixOf_36 ?_
    exact F_iret hX hE d_Dg_mixOf_37 ⟨rfl, rfl⟩
  · skip
    refine G_iload_n hX 0 rfl rfl d_Dg_mixOf_0 ?_
    refine G_tblIn hX (tgt := 38) d_Dg_mixOf_1 (by decide) (by decide) (off := 37) (by decide) rfl ?_
    refine G_iload_n hX 3 rfl rfl d_Dg_mixOf_38 ?_
    refine G_iload_n hX 1 rfl rfl d_Dg_mixOf_39 ?_
    refine G_iand hX d_Dg_mixOf_40 ?_
    refine G_iload_n hX 3 rfl rfl d_Dg_mixOf_41 ?_
    refine G_iconst hX d_Dg_mixOf_42 ?_
    refine G_ixor hX d_Dg_mixOf_43 ?_
    refine G_iload_n hX 2 rfl rfl d_Dg_mixOf_44 ?_
    refine G_iand hX d_Dg_mixOf_45 ?_
    refine G_ior hX d_Dg_mixOf_46 ?_
    exact F_iret hX hE d_Dg_mixOf_47 ⟨rfl, rfl⟩
  · skip
    refine G_iload_n hX 0 rfl rfl d_Dg_mixOf_0 ?_
    refine G_tblIn hX (tgt := 48) d_Dg_mixOf_1 (by decide) (by decide) (off := 47) (by decide) rfl ?_
    refine G_iload_n hX 1 rfl rfl d_Dg_mixOf_48 ?_
    refine G_iload_n hX 2 rfl rfl d_Dg_mixOf_49 ?_
    refine G_ixor hX d_Dg_mixOf_50 ?_
    refine G_iload_n hX 3 rfl rfl d_Dg_mixOf_51 ?_
    refine G_ixor hX d_Dg_mixOf_52 ?_
    exact F_iret hX hE d_Dg_mixOf_53 ⟨rfl, rfl⟩
  · skip
    refine G_iload_n hX 0 rfl rfl d_Dg_mixOf_0 ?_
    refine G_tblOut hX (tgt := 54) d_Dg_mixOf_1 (by decide) rfl ?_
    refine G_iload_n hX 2 rfl rfl d_Dg_mixOf_54 ?_
    refine G_iload_n hX 1 rfl rfl d_Dg_mixOf_55 ?_
    refine G_iload_n hX 3 rfl rfl d_Dg_mixOf_56 ?_
    refine G_iconst hX d_Dg_mixOf_57 ?_
    refine G_ixor hX d_Dg_mixOf_58 ?_
    refine G_ior hX d_Dg_mixOf_59 ?_
    refine G_ixor hX d_Dg_mixOf_60 ?_
    exact F_iret hX hE d_Dg_mixOf_61 ⟨rfl, rfl⟩
theorem c_Dg_wordOf (E : EV) (f : Nat → va_E) (i : Int) (hi : 0 ≤ i ∧ i < 64) : CF yn_Dg_wordOf cd_Dg_wordOf 1 (some (.int)) 0 E [.int (zI i)] f (fun r f' => r = some (.int (zI (wdF i))) ∧ f' = f) := by
  refine CF.of (by decide +kernel) (Nat.le_of_ble_eq_true rfl) fun X hX hE => ?_
  have hX : Ok E X "DeltaFerry$Digester" "wordOf" cd_Dg_wordOf 1 (some (.int)) (rl 0) := hX
  refine G_cast (lv' := [(0, .int (zI i))]) ?_ rfl rfl rfl rfl
  rcases (show i / 16 = 0 ∨ i / 16 = 1 ∨ i / 16 = 2 ∨ i / 16 = 3 by omega) with h6 | h6 | h6 | h6
  · skip
    refine G_iload_n hX 0 rfl rfl d_Dg_wordOf_0 ?_
    refine G_bipush hX (by decide) d_Dg_wordOf_1 ?_
    refine G_idiv_z hX (by omega) d_Dg_wordOf_3 ?_
    refine G_top (show zI (i / 16) = zI 0 from by rw [h6]) ?_
    refine G_tblIn hX (tgt := 32) d_Dg_wordOf_4 (by decide) (by decide) (off := 28) (by decide) rfl ?_
    refine G_iload_n hX 0 rfl rfl d_Dg_wordOf_32 ?_
    exact F_iret hX hE d_Dg_wordOf_33 ⟨by unfold wdF; rw [h6]; simp, rfl⟩
  · skip
    refine G_iload_n hX 0 rfl rfl d_Dg_wordOf_0 ?_
    refine G_bipush hX (by decide) d_Dg_wordOf_1 ?_
    refine G_idiv_z hX (by omega) d_Dg_wordOf_3 ?_
    refine G_top (show zI (i / 16) = zI 1 from by rw [h6]) ?_
    refine G_tblIn hX (tgt := 34) d_Dg_wordOf_4 (by decide) (by decide) (off := 30) (by decide) rfl ?_
    refine G_iconst hX d_Dg_wordOf_34 ?_
    refine G_iload_n hX 0 rfl rfl d_Dg_wordOf_35 ?_
    refine G_imul_z hX d_Dg_wordOf_36 ?_
    refine G_iconst hX d_Dg_wordOf_37 ?_
    refine G_iadd_z hX d_Dg_wordOf_38 ?_
    refine G_bipush hX (by decide) d_Dg_wordOf_39 ?_
    refine G_irem_z hX (by omega) d_Dg_wordOf_41 ?_
    exact F_iret hX hE d_Dg_wordOf_42 ⟨by unfold wdF; rw [h6]; simp, rfl⟩
  · skip
    refine G_iload_n hX 0 rfl rfl d_Dg_wordOf_0 ?_
    refine G_bipush hX (by decide) d_Dg_wordOf_1 ?_
    refine G_idiv_z hX (by omega) d_Dg_wordOf_3 ?_
    refine G_top (show zI (i / 16) = zI 2 from by rw [h6]) ?_
    refine G_tblIn hX (tgt := 43) d_Dg_wordOf_4 (by decide) (by decide) (off := 39) (by decide) rfl ?_
    refine G_iconst hX d_Dg_wordOf_43 ?_
    refine G_iload_n hX 0 rfl rfl d_Dg_wordOf_44 ?_
    refine G_imul_z hX d_Dg_wordOf_45 ?_
    refine G_iconst hX d_Dg_wordOf_46 ?_
    refine G_iadd_z hX d_Dg_wordOf_47 ?_
    refine G_bipush hX (by decide) d_Dg_wordOf_48 ?_
    refine G_irem_z hX (by omega) d_Dg_wordOf_50 ?_
    exact F_iret hX hE d_Dg_wordOf_51 ⟨by unfold wdF; rw [h6]; simp, rfl⟩
  · skip
    refine G_iload_n hX 0 rfl rfl d_Dg_wordOf_0 ?_
    refine G_bipush hX (by decide) d_Dg_wordOf_1 ?_
    refine G_idiv_z hX (by omega) d_Dg_wordOf_3 ?_
    refine G_top (show zI (i / 16) = zI 3 from by rw [h6]) ?_
    refine G_tblOut hX (tgt := 52) d_Dg_wordOf_4 (by decide) rfl ?_
    refine G_bipush hX (by decide) d_Dg_wordOf_52 ?_
    refine G_iload_n hX 0 rfl rfl d_Dg_wordOf_54 ?_
    refine G_imul_z hX d_Dg_wordOf_55 ?_
    refine G_bipush hX (by decide) d_Dg_wordOf_56 ?_
    refine G_irem_z hX (by omega) d_Dg_wordOf_58 ?_
    exact F_iret hX hE d_Dg_wordOf_59 ⟨by unfold wdF; rw [h6]; simp, rfl⟩
theorem m4_up (s t : S4) : ∀ q, q < 4 → (upd (upd (upd (upd (m4 s) (0 : Int).toNat (((m4 s) (0 : Int).toNat) + (t.1))) (1 : Int).toNat (((upd (m4 s) (0 : Int).toNat (((m4 s) (0 : Int).toNat) + (t.1))) (1 : Int).toNat) + (t.2.1))) (2 : Int).toNat (((upd (upd (m4 s) (0 : Int).toNat (((m4 s) (0 : Int).toNat) + (t.1))) (1 : Int).toNat (((upd (m4 s) (0 : Int).toNat (((m4 s) (0 : Int).toNat) + (t.1))) (1 : Int).toNat) + (t.2.1))) (2 : Int).toNat) + (t.2.2.1))) (3 : Int).toNat (((upd (upd (upd (m4 s) (0 : Int).toNat (((m4 s) (0 : Int).toNat) + (t.1))) (1 : Int).toNat (((upd (m4 s) (0 : Int).toNat (((m4 s) (0 : Int).toNat) + (t.1))) (1 : Int).toNat) + (t.2.1))) (2 : Int).toNat (((upd (upd (m4 s) (0 : Int).toNat (((m4 s) (0 : Int).toNat) + (t.1))) (1 : Int).toNat (((upd (m4 s) (0 : Int).toNat (((m4 s) (0 : Int).toNat) + (t.1))) (1 : Int).toNat) + (t.2.1))) (2 : Int).toNat) + (t.2.2.1))) (3 : Int).toNat) + (t.2.2.2))) q = m4 (m5A s t) q := by
  intro q hq
  rcases (show q = 0 ∨ q = 1 ∨ q = 2 ∨ q = 3 by omega) with rfl | rfl | rfl | rfl <;> rfl
theorem c_Dg_mixWords (E : EV) (f : Nat → va_E) (i a b : Nat) (s : S4) (wd : Nat → Int32) (hi : i < NC) (ha : a < NC) (hb : b < NC) (hia : i ≠ a) (hib : i ≠ b) (hab : a ≠ b) (hD : isD E f i a b (m4 s) wd) : CF yn_Dg_mixWords cd_Dg_mixWords 8 none 1 E [.ref (eA E i)] f (fun r f' => r = none ∧ isD E f' i a b (m4 (m5B wd s)) wd ∧ Fr [a] f f') := by
  refine CF.of (by decide +kernel) (Nat.le_of_ble_eq_true rfl) fun X hX hE => ?_
  have hX : Ok E X "DeltaFerry$Digester" "mixWords" cd_Dg_mixWords 8 none (rl 1) := hX
  refine G_cast (lv' := [(0, .ref (eA E i))]) ?_ rfl rfl rfl rfl
  refine G_aload_n hX 0 rfl rfl d_Dg_mixWords_0 ?_
  refine F_get hX fg_Dg_7 d_Dg_mixWords_1 i hi hD.1 rfl ?_
  refine G_iconst hX d_Dg_mixWords_4 ?_
  refine F_iald_r hX d_Dg_mixWords_5 a ha hD.2.1 (by omega) ?_
  refine G_top (show ((m4 s) (0 : Int).toNat) = s.1 from rfl) ?_
  refine G_istore_n hX (lv' := [(1, .int s.1), (0, .ref (eA E i))]) rfl (by decide) rfl d_Dg_mixWords_6 ?_
  refine G_aload_n hX 1 rfl rfl d_Dg_mixWords_7 ?_
  refine F_get hX fg_Dg_7 d_Dg_mixWords_8 i hi hD.1 rfl ?_
  refine G_iconst hX d_Dg_mixWords_11 ?_
  refine F_iald_r hX d_Dg_mixWords_12 a ha hD.2.1 (by omega) ?_
  refine G_top (show ((m4 s) (1 : Int).toNat) = s.2.1 from rfl) ?_
  refine G_istore_n hX (lv' := [(2, .int s.2.1), (1, .int s.1), (0, .ref (eA E i))]) rfl (by decide) rfl d_Dg_mixWords_13 ?_
  refine G_aload_n hX 2 rfl rfl d_Dg_mixWords_14 ?_
  refine F_get hX fg_Dg_7 d_Dg_mixWords_15 i hi hD.1 rfl ?_
  refine G_iconst hX d_Dg_mixWords_18 ?_
  refine F_iald_r hX d_Dg_mixWords_19 a ha hD.2.1 (by omega) ?_
  refine G_top (show ((m4 s) (2 : Int).toNat) = s.2.2.1 from rfl) ?_
  refine G_istore_n hX (lv' := [(3, .int s.2.2.1), (2, .int s.2.1), (1, .int s.1), (0, .ref (eA E i))]) rfl (by decide) rfl d_Dg_mixWords_20 ?_
  refine G_aload_n hX 3 rfl rfl d_Dg_mixWords_21 ?_
  refine F_get hX fg_Dg_7 d_Dg_mixWords_22 i hi hD.1 rfl ?_
  refine G_iconst hX d_Dg_mixWords_25 ?_
  refine F_iald_r hX d_Dg_mixWords_26 a ha hD.2.1 (by omega) ?_
  refine G_top (show ((m4 s) (3 : Int).toNat) = s.2.2.2 from rfl) ?_
  refine G_istore hX (lv' := [(4, .int s.2.2.2), (3, .int s.2.2.1), (2, .int s.2.1), (1, .int s.1), (0, .ref (eA E i))]) (by decide) rfl d_Dg_mixWords_27 ?_
  refine G_iconst hX d_Dg_mixWords_29 ?_
  refine G_istore hX (lv' := [(5, .int (zI 0)), (4, .int s.2.2.2), (3, .int s.2.2.1), (2, .int s.2.1), (1, .int s.1), (0, .ref (eA E i))]) (by decide) rfl d_Dg_mixWords_30 ?_
  have loop1 : ∀ (q : Nat) (t : Int) (f2 : Nat → va_E), (64 - t).toNat < q → 0 ≤ t ∧ t ≤ 64 → Fr [] f f2 → G E X 0 0 32 [(0, .ref (eA E i)), (1, .int ((m5L wd s t.toNat).1)), (2, .int ((m5L wd s t.toNat).2.1)), (3, .int ((m5L wd s t.toNat).2.2.1)), (4, .int ((m5L wd s t.toNat).2.2.2)), (5, .int (zI t))] [] (wl E f2) := by
    intro q
    induction q with
    | zero => intro t f2 hms4; exact absurd hms4 (Nat.not_lt_zero _)
    | succ q ih5 =>
      intro t f2 hms4 ht k3
      have hwf : 0 ≤ t → t < 64 → 0 ≤ wdF t ∧ wdF t < 16 := fun h1 h2 => wdF_b ⟨h1, h2⟩
      refine G_iload hX 5 rfl d_Dg_mixWords_32 ?_
      refine G_bipush hX (by decide) d_Dg_mixWords_34 ?_
      refine G_icmp_ge_z hX (tgt := 122) d_Dg_mixWords_36 rfl (by omega) (fun c6 => ?_) (fun c7 => ?_)
      · skip
        have et : t.toNat = 64 := by omega
        refine G_aload_n hX 0 rfl rfl d_Dg_mixWords_122 ?_
        have h8 : f2 i = ob 2 [.ref (eA E a), .ref (eA E b)] := (k3 i (List.not_mem_nil)).trans hD.1
        refine F_get hX fg_Dg_7 d_Dg_mixWords_123 i hi h8 rfl ?_
        refine G_iconst hX d_Dg_mixWords_126 ?_
        refine G_dup2 hX rfl rfl d_Dg_mixWords_127 ?_
        have h9 : f2 a = ia E 4 (m4 s) := (k3 a (List.not_mem_nil)).trans hD.2.1
        refine F_iald_r hX d_Dg_mixWords_128 a ha h9 (by omega) ?_
        refine G_iload_n hX 1 rfl rfl d_Dg_mixWords_129 ?_
        refine G_iadd hX d_Dg_mixWords_130 ?_
        refine F_iast_r hX d_Dg_mixWords_131 a ha h9 (by omega) (fun f10 h11 k12 => ?_)
        refine G_aload_n hX 0 rfl rfl d_Dg_mixWords_132 ?_
        have h13 : f10 i = ob 2 [.ref (eA E a), .ref (eA E b)] := (k12 i (by simp only [List.mem_cons, List.not_mem_nil, or_false]; omega)).trans h8
        refine F_get hX fg_Dg_7 d_Dg_mixWords_133 i hi h13 rfl ?_
        refine G_iconst hX d_Dg_mixWords_136 ?_
        refine G_dup2 hX rfl rfl d_Dg_mixWords_137 ?_
        refine F_iald_r hX d_Dg_mixWords_138 a ha h11 (by omega) ?_
        refine G_iload_n hX 2 rfl rfl d_Dg_mixWords_139 ?_
        refine G_iadd hX d_Dg_mixWords_140 ?_
        refine F_iast_r hX d_Dg_mixWords_141 a ha h11 (by omega) (fun f14 h15 k16 => ?_)
        refine G_aload_n hX 0 rfl rfl d_Dg_mixWords_142 ?_
        have h17 : f14 i = ob 2 [.ref (eA E a), .ref (eA E b)] := (k16 i (by simp only [List.mem_cons, List.not_mem_nil, or_false]; omega)).trans h13
        refine F_get hX fg_Dg_7 d_Dg_mixWords_143 i hi h17 rfl ?_
        refine G_iconst hX d_Dg_mixWords_146 ?_
        refine G_dup2 hX rfl rfl d_Dg_mixWords_147 ?_
        refine F_iald_r hX d_Dg_mixWords_148 a ha h15 (by omega) ?_
        refine G_iload_n hX 3 rfl rfl d_Dg_mixWords_149 ?_
        refine G_iadd hX d_Dg_mixWords_150 ?_
        refine F_iast_r hX d_Dg_mixWords_151 a ha h15 (by omega) (fun f18 h19 k20 => ?_)
        refine G_aload_n hX 0 rfl rfl d_Dg_mixWords_152 ?_
        have h21 : f18 i = ob 2 [.ref (eA E a), .ref (eA E b)] := (k20 i (by simp only [List.mem_cons, List.not_mem_nil, or_false]; omega)).trans h17
        refine F_get hX fg_Dg_7 d_Dg_mixWords_153 i hi h21 rfl ?_
        refine G_iconst hX d_Dg_mixWords_156 ?_
        refine G_dup2 hX rfl rfl d_Dg_mixWords_157 ?_
        refine F_iald_r hX d_Dg_mixWords_158 a ha h19 (by omega) ?_
        refine G_iload hX 4 rfl d_Dg_mixWords_159 ?_
        refine G_iadd hX d_Dg_mixWords_161 ?_
        refine F_iast_r hX d_Dg_mixWords_162 a ha h19 (by omega) (fun f22 h23 k24 => ?_)
        refine F_nrm a (m4 (m5B wd s)) ha h23 ?_ (fun f25 h26 k27 => ?_)
        · intro q hq
          have := m4_up s (m5L wd s t.toNat) q hq
          rw [this, et, m5B]
        have h28 : f25 i = ob 2 [.ref (eA E a), .ref (eA E b)] := (k27 i (by simp only [List.mem_cons, List.not_mem_nil, or_false]; omega)).trans ((k24 i (by simp only [List.mem_cons, List.not_mem_nil, or_false]; omega)).trans h21)
        have h29 : f25 b = ia E 16 wd := (k27 b (by simp only [List.mem_cons, List.not_mem_nil, or_false]; omega)).trans ((k24 b (by simp only [List.mem_cons, List.not_mem_nil, or_false]; omega)).trans ((k20 b (by simp only [List.mem_cons, List.not_mem_nil, or_false]; omega)).trans ((k16 b (by simp only [List.mem_cons, List.not_mem_nil, or_false]; omega)).trans ((k12 b (by simp only [List.mem_cons, List.not_mem_nil, or_false]; omega)).trans ((k3 b (List.not_mem_nil)).trans hD.2.2)))))
        exact F_vret hX hE d_Dg_mixWords_163 ⟨rfl, ⟨h28, h26, h29⟩, (Fr.tr (Fr.tr (Fr.tr (Fr.tr (Fr.tr (Fr.tr Fr.rf k3 (by simp)) k12 (by simp)) k16 (by simp)) k20 (by simp)) k24 (by simp)) k27 (by simp))⟩
      · skip
        refine G_iload_n hX 1 rfl rfl d_Dg_mixWords_39 ?_
        refine G_iload hX 5 rfl d_Dg_mixWords_40 ?_
        refine G_bipush hX (by decide) d_Dg_mixWords_42 ?_
        refine G_idiv_z hX (by omega) d_Dg_mixWords_44 ?_
        refine G_iload_n hX 2 rfl rfl d_Dg_mixWords_45 ?_
        refine G_iload_n hX 3 rfl rfl d_Dg_mixWords_46 ?_
        refine G_iload hX 4 rfl d_Dg_mixWords_47 ?_
        refine F_callS hX (st := [.int ((m5L wd s t.toNat).1)]) (c_Dg_mixOf E f2 (t / 16) ((m5L wd s t.toNat).2.1) ((m5L wd s t.toNat).2.2.1) ((m5L wd s t.toNat).2.2.2) (by omega)) cm_Dg_mixOf sm_Dg_mixOf ml_Dg_33 d_Dg_mixWords_49 rfl rfl (Nat.le_of_ble_eq_true rfl) (by decide) ?_
        rintro _ f30 ⟨rfl, e33⟩
        obtain rfl := e33.symm
        refine G_cast (st' := [.int (mxF (t / 16) ((m5L wd s t.toNat).2.1) ((m5L wd s t.toNat).2.2.1) ((m5L wd s t.toNat).2.2.2)), .int ((m5L wd s t.toNat).1)]) ?_ rfl rfl rfl rfl
        refine G_iadd hX d_Dg_mixWords_52 ?_
        refine G_getsK hX fs_Dg_37 d_Dg_mixWords_53 ?_
        refine G_iload hX 5 rfl d_Dg_mixWords_56 ?_
        refine G_tldK hX (zI_in (by omega)) d_Dg_mixWords_58 ?_
        refine G_top (show (kt_K.getD (zI t).toNatClampNeg 0) = (kt_K.getD t.toNat 0) from by rw [zI_cl ⟨by omega, by omega⟩]) ?_
        refine G_iadd hX d_Dg_mixWords_59 ?_
        refine G_aload_n hX 0 rfl rfl d_Dg_mixWords_60 ?_
        have h34 : f2 i = ob 2 [.ref (eA E a), .ref (eA E b)] := (k3 i (List.not_mem_nil)).trans hD.1
        refine F_get hX fg_Dg_13 d_Dg_mixWords_61 i hi h34 rfl ?_
        refine G_iload hX 5 rfl d_Dg_mixWords_64 ?_
        have hwf2 := hwf (by omega) (by omega)
        refine F_callS hX (st := [.ref (eA E b), .int ((((m5L wd s t.toNat).1) + (mxF (t / 16) ((m5L wd s t.toNat).2.1) ((m5L wd s t.toNat).2.2.1) ((m5L wd s t.toNat).2.2.2))) + (kt_K.getD t.toNat 0))]) (c_Dg_wordOf E f2 t (by omega)) cm_Dg_wordOf sm_Dg_wordOf ml_Dg_40 d_Dg_mixWords_66 rfl rfl (Nat.le_of_ble_eq_true rfl) (by decide) ?_
        rintro _ f35 ⟨rfl, e38⟩
        obtain rfl := e38.symm
        refine G_cast (st' := [.int (zI (wdF t)), .ref (eA E b), .int ((((m5L wd s t.toNat).1) + (mxF (t / 16) ((m5L wd s t.toNat).2.1) ((m5L wd s t.toNat).2.2.1) ((m5L wd s t.toNat).2.2.2))) + (kt_K.getD t.toNat 0))]) ?_ rfl rfl rfl rfl
        have h39 : f2 b = ia E 16 wd := (k3 b (List.not_mem_nil)).trans hD.2.2
        refine F_iald_r hX d_Dg_mixWords_69 b hb h39 (by omega) ?_
        refine G_iadd hX d_Dg_mixWords_70 ?_
        refine G_istore hX (lv' := [(6, .int (((((m5L wd s t.toNat).1) + (mxF (t / 16) ((m5L wd s t.toNat).2.1) ((m5L wd s t.toNat).2.2.1) ((m5L wd s t.toNat).2.2.2))) + (kt_K.getD t.toNat 0)) + (wd (wdF t : Int).toNat))), (0, .ref (eA E i)), (1, .int ((m5L wd s t.toNat).1)), (2, .int ((m5L wd s t.toNat).2.1)), (3, .int ((m5L wd s t.toNat).2.2.1)), (4, .int ((m5L wd s t.toNat).2.2.2)), (5, .int (zI t))]) (by decide) rfl d_Dg_mixWords_71 ?_
        refine G_getsT hX fs_Dg_44 d_Dg_mixWords_73 ?_
        refine G_iload hX 6 rfl d_Dg_mixWords_76 ?_
        refine G_bipush hX (by decide) d_Dg_mixWords_78 ?_
        refine G_idiv_z hX (by omega) d_Dg_mixWords_80 ?_
        refine G_iconst hX d_Dg_mixWords_81 ?_
        refine G_imul_z hX d_Dg_mixWords_82 ?_
        refine G_iload hX 6 rfl d_Dg_mixWords_83 ?_
        refine G_iconst hX d_Dg_mixWords_85 ?_
        refine G_irem_z hX (by omega) d_Dg_mixWords_86 ?_
        refine G_iadd_z hX d_Dg_mixWords_87 ?_
        refine G_tldT hX (zI_in (by omega)) d_Dg_mixWords_88 ?_
        refine G_top (show (kt_T.getD (zI (((t / 16) * 4) + (t % 4))).toNatClampNeg 0) = (kt_T.getD (t / 16 * 4 + t % 4).toNat 0) from by rw [zI_cl ⟨by omega, by omega⟩]) ?_
        refine G_istore hX (lv' := [(7, .int (kt_T.getD (t / 16 * 4 + t % 4).toNat 0)), (6, .int (((((m5L wd s t.toNat).1) + (mxF (t / 16) ((m5L wd s t.toNat).2.1) ((m5L wd s t.toNat).2.2.1) ((m5L wd s t.toNat).2.2.2))) + (kt_K.getD t.toNat 0)) + (wd (wdF t : Int).toNat))), (0, .ref (eA E i)), (1, .int ((m5L wd s t.toNat).1)), (2, .int ((m5L wd s t.toNat).2.1)), (3, .int ((m5L wd s t.toNat).2.2.1)), (4, .int ((m5L wd s t.toNat).2.2.2)), (5, .int (zI t))]) (by decide) rfl d_Dg_mixWords_89 ?_
        refine G_iload hX 6 rfl d_Dg_mixWords_91 ?_
        refine G_istore_n hX (lv' := [(1, .int ((m5L wd s t.toNat).2.2.2)), (7, .int (kt_T.getD (t / 16 * 4 + t % 4).toNat 0)), (6, .int (((((m5L wd s t.toNat).1) + (mxF (t / 16) ((m5L wd s t.toNat).2.1) ((m5L wd s t.toNat).2.2.1) ((m5L wd s t.toNat).2.2.2))) + (kt_K.getD t.toNat 0)) + (wd (wdF t : Int).toNat))), (0, .ref (eA E i)), (2, .int ((m5L wd s t.toNat).2.1)), (3, .int ((m5L wd s t.toNat).2.2.1)), (4, .int ((m5L wd s t.toNat).2.2.2)), (5, .int (zI t))]) rfl (by decide) rfl d_Dg_mixWords_93 ?_
        refine G_iload_n hX 5 rfl rfl d_Dg_mixWords_94 ?_
        refine G_istore hX (lv' := [(4, .int ((m5L wd s t.toNat).2.2.1)), (1, .int ((m5L wd s t.toNat).2.2.2)), (7, .int (kt_T.getD (t / 16 * 4 + t % 4).toNat 0)), (6, .int (((((m5L wd s t.toNat).1) + (mxF (t / 16) ((m5L wd s t.toNat).2.1) ((m5L wd s t.toNat).2.2.1) ((m5L wd s t.toNat).2.2.2))) + (kt_K.getD t.toNat 0)) + (wd (wdF t : Int).toNat))), (0, .ref (eA E i)), (2, .int ((m5L wd s t.toNat).2.1)), (3, .int ((m5L wd s t.toNat).2.2.1)), (5, .int (zI t))]) (by decide) rfl d_Dg_mixWords_95 ?_
        refine G_iload_n hX 5 rfl rfl d_Dg_mixWords_97 ?_
        refine G_istore_n hX (lv' := [(3, .int ((m5L wd s t.toNat).2.1)), (4, .int ((m5L wd s t.toNat).2.2.1)), (1, .int ((m5L wd s t.toNat).2.2.2)), (7, .int (kt_T.getD (t / 16 * 4 + t % 4).toNat 0)), (6, .int (((((m5L wd s t.toNat).1) + (mxF (t / 16) ((m5L wd s t.toNat).2.1) ((m5L wd s t.toNat).2.2.1) ((m5L wd s t.toNat).2.2.2))) + (kt_K.getD t.toNat 0)) + (wd (wdF t : Int).toNat))), (0, .ref (eA E i)), (2, .int ((m5L wd s t.toNat).2.1)), (5, .int (zI t))]) rfl (by decide) rfl d_Dg_mixWords_98 ?_
        refine G_iload_n hX 6 rfl rfl d_Dg_mixWords_99 ?_
        refine G_iload hX 4 rfl d_Dg_mixWords_100 ?_
        refine G_iload hX 3 rfl d_Dg_mixWords_102 ?_
        refine G_ishl hX d_Dg_mixWords_104 ?_
        refine G_iload hX 4 rfl d_Dg_mixWords_105 ?_
        refine G_bipush hX (by decide) d_Dg_mixWords_107 ?_
        refine G_iload hX 3 rfl d_Dg_mixWords_109 ?_
        refine G_isub hX d_Dg_mixWords_111 ?_
        refine G_iushr hX (v := ((((((m5L wd s t.toNat).1) + (mxF (t / 16) ((m5L wd s t.toNat).2.1) ((m5L wd s t.toNat).2.2.1) ((m5L wd s t.toNat).2.2.2))) + (kt_K.getD t.toNat 0)) + (wd (wdF t : Int).toNat)).toUInt32 >>> ((zI 32 - (kt_T.getD (t / 16 * 4 + t % 4).toNat 0)).toUInt32 &&& Int32.toUInt32 31)).toInt32) rfl d_Dg_mixWords_112 ?_
        refine G_ior hX d_Dg_mixWords_113 ?_
        refine G_iadd hX d_Dg_mixWords_114 ?_
        refine G_istore_n hX (lv' := [(2, .int (((m5L wd s t.toNat).2.1) + (((((((m5L wd s t.toNat).1) + (mxF (t / 16) ((m5L wd s t.toNat).2.1) ((m5L wd s t.toNat).2.2.1) ((m5L wd s t.toNat).2.2.2))) + (kt_K.getD t.toNat 0)) + (wd (wdF t : Int).toNat)) <<< ((kt_T.getD (t / 16 * 4 + t % 4).toNat 0) &&& 31)) ||| (((((((m5L wd s t.toNat).1) + (mxF (t / 16) ((m5L wd s t.toNat).2.1) ((m5L wd s t.toNat).2.2.1) ((m5L wd s t.toNat).2.2.2))) + (kt_K.getD t.toNat 0)) + (wd (wdF t : Int).toNat)).toUInt32 >>> ((zI 32 - (kt_T.getD (t / 16 * 4 + t % 4).toNat 0)).toUInt32 &&& Int32.toUInt32 31)).toInt32)))), (3, .int ((m5L wd s t.toNat).2.1)), (4, .int ((m5L wd s t.toNat).2.2.1)), (1, .int ((m5L wd s t.toNat).2.2.2)), (7, .int (kt_T.getD (t / 16 * 4 + t % 4).toNat 0)), (6, .int (((((m5L wd s t.toNat).1) + (mxF (t / 16) ((m5L wd s t.toNat).2.1) ((m5L wd s t.toNat).2.2.1) ((m5L wd s t.toNat).2.2.2))) + (kt_K.getD t.toNat 0)) + (wd (wdF t : Int).toNat))), (0, .ref (eA E i)), (5, .int (zI t))]) rfl (by decide) rfl d_Dg_mixWords_115 ?_
        refine G_iinc_z hX (lv' := [(5, .int (zI (t + 1))), (2, .int (((m5L wd s t.toNat).2.1) + (((((((m5L wd s t.toNat).1) + (mxF (t / 16) ((m5L wd s t.toNat).2.1) ((m5L wd s t.toNat).2.2.1) ((m5L wd s t.toNat).2.2.2))) + (kt_K.getD t.toNat 0)) + (wd (wdF t : Int).toNat)) <<< ((kt_T.getD (t / 16 * 4 + t % 4).toNat 0) &&& 31)) ||| (((((((m5L wd s t.toNat).1) + (mxF (t / 16) ((m5L wd s t.toNat).2.1) ((m5L wd s t.toNat).2.2.1) ((m5L wd s t.toNat).2.2.2))) + (kt_K.getD t.toNat 0)) + (wd (wdF t : Int).toNat)).toUInt32 >>> ((zI 32 - (kt_T.getD (t / 16 * 4 + t % 4).toNat 0)).toUInt32 &&& Int32.toUInt32 31)).toInt32)))), (3, .int ((m5L wd s t.toNat).2.1)), (4, .int ((m5L wd s t.toNat).2.2.1)), (1, .int ((m5L wd s t.toNat).2.2.2)), (7, .int (kt_T.getD (t / 16 * 4 + t % 4).toNat 0)), (6, .int (((((m5L wd s t.toNat).1) + (mxF (t / 16) ((m5L wd s t.toNat).2.1) ((m5L wd s t.toNat).2.2.1) ((m5L wd s t.toNat).2.2.2))) + (kt_K.getD t.toNat 0)) + (wd (wdF t : Int).toNat))), (0, .ref (eA E i))]) 7 rfl (by decide) rfl d_Dg_mixWords_116 ?_
        refine G_goto hX (tgt := 32) d_Dg_mixWords_119 rfl ?_
        refine G_loc (lv' := [(0, .ref (eA E i)), (1, .int ((m5L wd s t.toNat).2.2.2)), (2, .int (((m5L wd s t.toNat).2.1) + (((((((m5L wd s t.toNat).1) + (mxF (t / 16) ((m5L wd s t.toNat).2.1) ((m5L wd s t.toNat).2.2.1) ((m5L wd s t.toNat).2.2.2))) + (kt_K.getD t.toNat 0)) + (wd (wdF t : Int).toNat)) <<< ((kt_T.getD (t / 16 * 4 + t % 4).toNat 0) &&& 31)) ||| (((((((m5L wd s t.toNat).1) + (mxF (t / 16) ((m5L wd s t.toNat).2.1) ((m5L wd s t.toNat).2.2.1) ((m5L wd s t.toNat).2.2.2))) + (kt_K.getD t.toNat 0)) + (wd (wdF t : Int).toNat)).toUInt32 >>> ((zI 32 - (kt_T.getD (t / 16 * 4 + t % 4).toNat 0)).toUInt32 &&& Int32.toUInt32 31)).toInt32)))), (3, .int ((m5L wd s t.toNat).2.1)), (4, .int ((m5L wd s t.toNat).2.2.1)), (5, .int (zI (t + 1)))]) [7, 4, 1, 2, 3, 0] rfl ?_
        refine G_cast (ih5 (t + 1) f2 (by omega) (by omega)  (Fr.tr Fr.rf k3 (by decide))) rfl (by rw [m5L_s ht.1]; rfl) rfl rfl
  refine G_loc (lv' := [(0, .ref (eA E i)), (1, .int s.1), (2, .int s.2.1), (3, .int s.2.2.1), (4, .int s.2.2.2), (5, .int (zI 0))]) [5, 4, 3, 2, 1, 0] rfl ?_
  refine G_cast (loop1 (_ + 1) 0 f (Nat.lt_succ_self _) (by omega)  Fr.rf) rfl (by rfl) rfl rfl
