/-! Writer: codes; printed by wip/tools/m_wt3.py -/
theorem c2F_b {P : PS} {md : Int → Int} {i : Int} (hS : 1 ≤ pS P i) (h1 : pT P i = 3 → 0 ≤ md i ∧ md i ≤ 8) (h2 : pT P (i + 1) = 3 → 0 ≤ md (i + 1) ∧ md (i + 1) ≤ 8) : -1 ≤ c2F P md i ∧ c2F P md i ≤ 255 := by
  unfold c2F
  split
  · rename_i h3
    have h4 := h2 h3.2.1
    split
    · omega
    · split <;> omega
  · split
    · rename_i h5
      have := h1 h5.1
      omega
    · omega
theorem cdL_e {P : PS} {md : Int → Int} {b i : Int} {k : Nat} (h : b ≤ i) : cdL P md b k i = [] := by
  cases k with
  | zero => rfl
  | succ k => unfold cdL; rw [if_neg (by omega)]
theorem cdL_2 {P : PS} {md : Int → Int} {b i : Int} {k : Nat} (h : i + 1 < b) (hk : b - i ≤ k) (hc : 0 ≤ c2F P md i) : cdL P md b k i = [c2F P md i] ++ cdL P md b (k - 1) (i + 2) := by
  cases k with
  | zero => exfalso; have : ((0 : Nat) : Int) = 0 := rfl; omega
  | succ k =>
    show (if i < b then (if _ then _ else _) else _) = _
    rw [if_pos (by omega), if_pos ⟨h, hc⟩]; rfl
theorem cdL_1 {P : PS} {md : Int → Int} {b i : Int} {k : Nat} (h : i < b) (hk : b - i ≤ k) (hc : ¬ (i + 1 < b ∧ 0 ≤ c2F P md i)) : cdL P md b k i = c1L (pT P i) (pS P i) (md i) ++ cdL P md b (k - 1) (i + 1) := by
  cases k with
  | zero => exfalso; have : ((0 : Nat) : Int) = 0 := rfl; omega
  | succ k =>
    show (if i < b then (if _ then _ else _) else _) = _
    rw [if_pos h, if_neg hc]; rfl
theorem c1L_len {t n m : Int} (hn : n < 16384) : 1 ≤ (c1L t n m).length ∧ (c1L t n m).length ≤ 3 := by
  have h1 := nbL_len n
  have h2 := wid_2 hn
  have h3 := wid_b n
  unfold c1L
  split
  · simp
  · split
    · simp
    · simp only [List.length_append, List.length_cons, List.length_nil]; omega
theorem wnOK_le {P : PS} {a b x c : Int} (h : wnOK P a b x c) : psI P b ≤ x + 256 := by
  obtain ⟨h1, h2, h3⟩ := h
  by_cases hab : a = b
  · rw [← hab, ← h2.1]; omega
  · have := (h3 (b - 1) (by omega) (by omega)).2.1
    rw [show b - 1 + 1 = b by omega] at this
    exact this
theorem c_Wt_codeForTwo (E : EV) (f : Nat → va_E) (P : PS) (md w s : Int) (md0 : Int → Int) (b i : Int) (hT : isWt E f b) (hP : isPl E f P md w s) (hB : plB P) (hmo : f 40 = iz E 300 md0) (hi : 0 ≤ i ∧ i + 1 < 300) (h1 : pT P i = 3 → 0 ≤ md0 i ∧ md0 i ≤ 8) (h2 : pT P (i + 1) = 3 → 0 ≤ md0 (i + 1) ∧ md0 (i + 1) ≤ 8) : CF yn_Wt_codeForTwo cd_Wt_codeForTwo 6 (some (.int)) 0 E [.ref (eA E 29), .ref (eA E 22), .int (zI i)] f (fun r f' => r = some (.int (zI (c2F P md0 i))) ∧ f' = f) := by
  refine CF.of (by decide +kernel) (Nat.le_of_ble_eq_true rfl) fun X hX hE => ?_
  have hX : Ok E X "DeltaFerry$Writer" "codeForTwo" cd_Wt_codeForTwo 6 (some (.int)) (rl 0) := hX
  refine G_cast (lv' := [(0, .ref (eA E 29)), (1, .ref (eA E 22)), (2, .int (zI i))]) ?_ rfl rfl rfl rfl
  have hb1 := hB i
  have hb2 := hB (i + 1)
  refine G_aload_n hX 1 rfl rfl d_Wt_codeForTwo_0 ?_
  refine F_get hX fg_Wt_111 d_Wt_codeForTwo_1 22 (by decide) hP.1 rfl ?_
  refine G_iload_n hX 2 rfl rfl d_Wt_codeForTwo_4 ?_
  refine F_iald hX d_Wt_codeForTwo_5 24 (by decide) hP.2.2.1 (by omega) ?_
  have b1 := hB i
  refine G_istore_n hX (lv' := [(3, .int (zI ((pS P) i))), (0, .ref (eA E 29)), (1, .ref (eA E 22)), (2, .int (zI i))]) rfl (by decide) rfl d_Wt_codeForTwo_6 ?_
  refine G_aload_n hX 2 rfl rfl d_Wt_codeForTwo_7 ?_
  refine F_get hX fg_Wt_111 d_Wt_codeForTwo_8 22 (by decide) hP.1 rfl ?_
  refine G_iload_n hX 3 rfl rfl d_Wt_codeForTwo_11 ?_
  refine G_iconst hX d_Wt_codeForTwo_12 ?_
  refine G_iadd_z hX d_Wt_codeForTwo_13 ?_
  refine F_iald hX d_Wt_codeForTwo_14 24 (by decide) hP.2.2.1 (by omega) ?_
  have b2 := hB (i + 1)
  refine G_istore hX (lv' := [(4, .int (zI ((pS P) (i + 1)))), (3, .int (zI ((pS P) i))), (0, .ref (eA E 29)), (1, .ref (eA E 22)), (2, .int (zI i))]) (by decide) rfl d_Wt_codeForTwo_15 ?_
  refine G_aload_n hX 3 rfl rfl d_Wt_codeForTwo_17 ?_
  refine F_get hX fg_Wt_108 d_Wt_codeForTwo_18 22 (by decide) hP.1 rfl ?_
  refine G_iload_n hX 4 rfl rfl d_Wt_codeForTwo_21 ?_
  refine F_iald hX d_Wt_codeForTwo_22 23 (by decide) hP.2.1 (by omega) ?_
  have b3 := hB i
  refine G_iconst hX d_Wt_codeForTwo_23 ?_
  refine G_icmp_ne_z hX (tgt := 127) d_Wt_codeForTwo_24 rfl (by omega) (fun c4 => ?_) (fun c5 => ?_)
  · skip
    refine G_aload_n hX 3 rfl rfl d_Wt_codeForTwo_127 ?_
    refine F_get hX fg_Wt_108 d_Wt_codeForTwo_128 22 (by decide) hP.1 rfl ?_
    refine G_iload_n hX 4 rfl rfl d_Wt_codeForTwo_131 ?_
    refine F_iald hX d_Wt_codeForTwo_132 23 (by decide) hP.2.1 (by omega) ?_
    have b6 := hB i
    refine G_iconst hX d_Wt_codeForTwo_133 ?_
    refine G_icmp_ne_z hX (tgt := 164) d_Wt_codeForTwo_134 rfl (by omega) (fun c7 => ?_) (fun c8 => ?_)
    · skip
      refine G_iconst hX d_Wt_codeForTwo_164 ?_
      refine G_istore hX (lv' := [(5, .int (zI 0)), (4, .int (zI ((pS P) (i + 1)))), (3, .int (zI ((pS P) i))), (0, .ref (eA E 29)), (1, .ref (eA E 22)), (2, .int (zI i))]) (by decide) rfl d_Wt_codeForTwo_165 ?_
      refine G_iload hX 0 rfl d_Wt_codeForTwo_167 ?_
      refine G_if_eq_z hX (tgt := 185) d_Wt_codeForTwo_169 rfl (by omega) (fun c9 => ?_) (fun c10 => by exfalso; omega)
      refine G_iconst hX d_Wt_codeForTwo_185 ?_
      exact F_iret hX hE d_Wt_codeForTwo_186 ⟨by first | (exfalso; omega) | (unfold c2F; (repeat (first | rw [if_pos (by omega)] | rw [if_neg (by omega)]))), rfl⟩
    · skip
      refine G_iload_n hX 1 rfl rfl d_Wt_codeForTwo_137 ?_
      refine G_iconst hX d_Wt_codeForTwo_138 ?_
      refine G_icmp_ne_z hX (tgt := 164) d_Wt_codeForTwo_139 rfl (by omega) (fun c11 => ?_) (fun c12 => ?_)
      · skip
        refine G_iconst hX d_Wt_codeForTwo_164 ?_
        refine G_istore hX (lv' := [(5, .int (zI 0)), (4, .int (zI ((pS P) (i + 1)))), (3, .int (zI ((pS P) i))), (0, .ref (eA E 29)), (1, .ref (eA E 22)), (2, .int (zI i))]) (by decide) rfl d_Wt_codeForTwo_165 ?_
        refine G_iload hX 0 rfl d_Wt_codeForTwo_167 ?_
        refine G_if_eq_z hX (tgt := 185) d_Wt_codeForTwo_169 rfl (by omega) (fun c13 => ?_) (fun c14 => by exfalso; omega)
        refine G_iconst hX d_Wt_codeForTwo_185 ?_
        exact F_iret hX hE d_Wt_codeForTwo_186 ⟨by first | (exfalso; omega) | (unfold c2F; (repeat (first | rw [if_pos (by omega)] | rw [if_neg (by omega)]))), rfl⟩
      · skip
        refine G_aload_n hX 3 rfl rfl d_Wt_codeForTwo_142 ?_
        refine F_get hX fg_Wt_108 d_Wt_codeForTwo_143 22 (by decide) hP.1 rfl ?_
        refine G_iload_n hX 4 rfl rfl d_Wt_codeForTwo_146 ?_
        refine G_iconst hX d_Wt_codeForTwo_147 ?_
        refine G_iadd_z hX d_Wt_codeForTwo_148 ?_
        refine F_iald hX d_Wt_codeForTwo_149 23 (by decide) hP.2.1 (by omega) ?_
        have b15 := hB (i + 1)
        refine G_iconst hX d_Wt_codeForTwo_150 ?_
        refine G_icmp_ne_z hX (tgt := 164) d_Wt_codeForTwo_151 rfl (by omega) (fun c16 => ?_) (fun c17 => ?_)
        · skip
          refine G_iconst hX d_Wt_codeForTwo_164 ?_
          refine G_istore hX (lv' := [(5, .int (zI 0)), (4, .int (zI ((pS P) (i + 1)))), (3, .int (zI ((pS P) i))), (0, .ref (eA E 29)), (1, .ref (eA E 22)), (2, .int (zI i))]) (by decide) rfl d_Wt_codeForTwo_165 ?_
          refine G_iload hX 0 rfl d_Wt_codeForTwo_167 ?_
          refine G_if_eq_z hX (tgt := 185) d_Wt_codeForTwo_169 rfl (by omega) (fun c18 => ?_) (fun c19 => by exfalso; omega)
          refine G_iconst hX d_Wt_codeForTwo_185 ?_
          exact F_iret hX hE d_Wt_codeForTwo_186 ⟨by first | (exfalso; omega) | (unfold c2F; (repeat (first | rw [if_pos (by omega)] | rw [if_neg (by omega)]))), rfl⟩
        · skip
          refine G_iload hX 0 rfl d_Wt_codeForTwo_154 ?_
          refine G_iconst hX d_Wt_codeForTwo_156 ?_
          refine G_icmp_ne_z hX (tgt := 164) d_Wt_codeForTwo_157 rfl (by omega) (fun c20 => ?_) (fun c21 => ?_)
          · skip
            refine G_iconst hX d_Wt_codeForTwo_164 ?_
            refine G_istore hX (lv' := [(5, .int (zI 0)), (4, .int (zI ((pS P) (i + 1)))), (3, .int (zI ((pS P) i))), (0, .ref (eA E 29)), (1, .ref (eA E 22)), (2, .int (zI i))]) (by decide) rfl d_Wt_codeForTwo_165 ?_
            refine G_iload hX 0 rfl d_Wt_codeForTwo_167 ?_
            refine G_if_eq_z hX (tgt := 185) d_Wt_codeForTwo_169 rfl (by omega) (fun c22 => ?_) (fun c23 => by exfalso; omega)
            refine G_iconst hX d_Wt_codeForTwo_185 ?_
            exact F_iret hX hE d_Wt_codeForTwo_186 ⟨by first | (exfalso; omega) | (unfold c2F; (repeat (first | rw [if_pos (by omega)] | rw [if_neg (by omega)]))), rfl⟩
          · skip
            refine G_iconst hX d_Wt_codeForTwo_160 ?_
            refine G_goto hX (tgt := 165) d_Wt_codeForTwo_161 rfl ?_
            refine G_istore hX (lv' := [(5, .int (zI 1)), (4, .int (zI ((pS P) (i + 1)))), (3, .int (zI ((pS P) i))), (0, .ref (eA E 29)), (1, .ref (eA E 22)), (2, .int (zI i))]) (by decide) rfl d_Wt_codeForTwo_165 ?_
            refine G_iload hX 0 rfl d_Wt_codeForTwo_167 ?_
            refine G_if_eq_z hX (tgt := 185) d_Wt_codeForTwo_169 rfl (by omega) (fun c24 => by exfalso; omega) (fun c25 => ?_)
            have hm1 := h1 (by omega)
            refine G_sipush hX (by decide) d_Wt_codeForTwo_172 ?_
            refine G_aload_n hX 3 rfl rfl d_Wt_codeForTwo_175 ?_
            refine F_get hX fg_Wt_32 d_Wt_codeForTwo_176 29 (by decide) hT rfl ?_
            refine G_iload_n hX 5 rfl rfl d_Wt_codeForTwo_179 ?_
            refine F_iald hX d_Wt_codeForTwo_180 40 (by decide) hmo (by omega) ?_
            refine G_iadd_z hX d_Wt_codeForTwo_181 ?_
            refine G_goto hX (tgt := 186) d_Wt_codeForTwo_182 rfl ?_
            exact F_iret hX hE d_Wt_codeForTwo_186 ⟨by first | (exfalso; omega) | (unfold c2F; (repeat (first | rw [if_pos (by omega)] | rw [if_neg (by omega)]))), rfl⟩
  · skip
    refine G_aload_n hX 3 rfl rfl d_Wt_codeForTwo_27 ?_
    refine F_get hX fg_Wt_108 d_Wt_codeForTwo_28 22 (by decide) hP.1 rfl ?_
    refine G_iload_n hX 4 rfl rfl d_Wt_codeForTwo_31 ?_
    refine G_iconst hX d_Wt_codeForTwo_32 ?_
    refine G_iadd_z hX d_Wt_codeForTwo_33 ?_
    refine F_iald hX d_Wt_codeForTwo_34 23 (by decide) hP.2.1 (by omega) ?_
    have b26 := hB (i + 1)
    refine G_iconst hX d_Wt_codeForTwo_35 ?_
    refine G_icmp_ne_z hX (tgt := 127) d_Wt_codeForTwo_36 rfl (by omega) (fun c27 => ?_) (fun c28 => ?_)
    · skip
      refine G_aload_n hX 3 rfl rfl d_Wt_codeForTwo_127 ?_
      refine F_get hX fg_Wt_108 d_Wt_codeForTwo_128 22 (by decide) hP.1 rfl ?_
      refine G_iload_n hX 4 rfl rfl d_Wt_codeForTwo_131 ?_
      refine F_iald hX d_Wt_codeForTwo_132 23 (by decide) hP.2.1 (by omega) ?_
      have b29 := hB i
      refine G_iconst hX d_Wt_codeForTwo_133 ?_
      refine G_icmp_ne_z hX (tgt := 164) d_Wt_codeForTwo_134 rfl (by omega) (fun c30 => ?_) (fun c31 => ?_)
      · skip
        refine G_iconst hX d_Wt_codeForTwo_164 ?_
        refine G_istore hX (lv' := [(5, .int (zI 0)), (4, .int (zI ((pS P) (i + 1)))), (3, .int (zI ((pS P) i))), (0, .ref (eA E 29)), (1, .ref (eA E 22)), (2, .int (zI i))]) (by decide) rfl d_Wt_codeForTwo_165 ?_
        refine G_iload hX 0 rfl d_Wt_codeForTwo_167 ?_
        refine G_if_eq_z hX (tgt := 185) d_Wt_codeForTwo_169 rfl (by omega) (fun c32 => ?_) (fun c33 => by exfalso; omega)
        refine G_iconst hX d_Wt_codeForTwo_185 ?_
        exact F_iret hX hE d_Wt_codeForTwo_186 ⟨by first | (exfalso; omega) | (unfold c2F; (repeat (first | rw [if_pos (by omega)] | rw [if_neg (by omega)]))), rfl⟩
      · skip
        refine G_iload_n hX 1 rfl rfl d_Wt_codeForTwo_137 ?_
        refine G_iconst hX d_Wt_codeForTwo_138 ?_
        refine G_icmp_ne_z hX (tgt := 164) d_Wt_codeForTwo_139 rfl (by omega) (fun c34 => ?_) (fun c35 => ?_)
        · skip
          refine G_iconst hX d_Wt_codeForTwo_164 ?_
          refine G_istore hX (lv' := [(5, .int (zI 0)), (4, .int (zI ((pS P) (i + 1)))), (3, .int (zI ((pS P) i))), (0, .ref (eA E 29)), (1, .ref (eA E 22)), (2, .int (zI i))]) (by decide) rfl d_Wt_codeForTwo_165 ?_
          refine G_iload hX 0 rfl d_Wt_codeForTwo_167 ?_
          refine G_if_eq_z hX (tgt := 185) d_Wt_codeForTwo_169 rfl (by omega) (fun c36 => ?_) (fun c37 => by exfalso; omega)
          refine G_iconst hX d_Wt_codeForTwo_185 ?_
          exact F_iret hX hE d_Wt_codeForTwo_186 ⟨by first | (exfalso; omega) | (unfold c2F; (repeat (first | rw [if_pos (by omega)] | rw [if_neg (by omega)]))), rfl⟩
        · skip
          refine G_aload_n hX 3 rfl rfl d_Wt_codeForTwo_142 ?_
          refine F_get hX fg_Wt_108 d_Wt_codeForTwo_143 22 (by decide) hP.1 rfl ?_
          refine G_iload_n hX 4 rfl rfl d_Wt_codeForTwo_146 ?_
          refine G_iconst hX d_Wt_codeForTwo_147 ?_
          refine G_iadd_z hX d_Wt_codeForTwo_148 ?_
          refine F_iald hX d_Wt_codeForTwo_149 23 (by decide) hP.2.1 (by omega) ?_
          have b38 := hB (i + 1)
          refine G_iconst hX d_Wt_codeForTwo_150 ?_
          refine G_icmp_ne_z hX (tgt := 164) d_Wt_codeForTwo_151 rfl (by omega) (fun c39 => ?_) (fun c40 => ?_)
          · skip
            refine G_iconst hX d_Wt_codeForTwo_164 ?_
            refine G_istore hX (lv' := [(5, .int (zI 0)), (4, .int (zI ((pS P) (i + 1)))), (3, .int (zI ((pS P) i))), (0, .ref (eA E 29)), (1, .ref (eA E 22)), (2, .int (zI i))]) (by decide) rfl d_Wt_codeForTwo_165 ?_
            refine G_iload hX 0 rfl d_Wt_codeForTwo_167 ?_
            refine G_if_eq_z hX (tgt := 185) d_Wt_codeForTwo_169 rfl (by omega) (fun c41 => ?_) (fun c42 => by exfalso; omega)
            refine G_iconst hX d_Wt_codeForTwo_185 ?_
            exact F_iret hX hE d_Wt_codeForTwo_186 ⟨by first | (exfalso; omega) | (unfold c2F; (repeat (first | rw [if_pos (by omega)] | rw [if_neg (by omega)]))), rfl⟩
          · skip
            refine G_iload hX 0 rfl d_Wt_codeForTwo_154 ?_
            refine G_iconst hX d_Wt_codeForTwo_156 ?_
            refine G_icmp_ne_z hX (tgt := 164) d_Wt_codeForTwo_157 rfl (by omega) (fun c43 => ?_) (fun c44 => ?_)
            · skip
              refine G_iconst hX d_Wt_codeForTwo_164 ?_
              refine G_istore hX (lv' := [(5, .int (zI 0)), (4, .int (zI ((pS P) (i + 1)))), (3, .int (zI ((pS P) i))), (0, .ref (eA E 29)), (1, .ref (eA E 22)), (2, .int (zI i))]) (by decide) rfl d_Wt_codeForTwo_165 ?_
              refine G_iload hX 0 rfl d_Wt_codeForTwo_167 ?_
              refine G_if_eq_z hX (tgt := 185) d_Wt_codeForTwo_169 rfl (by omega) (fun c45 => ?_) (fun c46 => by exfalso; omega)
              refine G_iconst hX d_Wt_codeForTwo_185 ?_
              exact F_iret hX hE d_Wt_codeForTwo_186 ⟨by first | (exfalso; omega) | (unfold c2F; (repeat (first | rw [if_pos (by omega)] | rw [if_neg (by omega)]))), rfl⟩
            · skip
              refine G_iconst hX d_Wt_codeForTwo_160 ?_
              refine G_goto hX (tgt := 165) d_Wt_codeForTwo_161 rfl ?_
              refine G_istore hX (lv' := [(5, .int (zI 1)), (4, .int (zI ((pS P) (i + 1)))), (3, .int (zI ((pS P) i))), (0, .ref (eA E 29)), (1, .ref (eA E 22)), (2, .int (zI i))]) (by decide) rfl d_Wt_codeForTwo_165 ?_
              refine G_iload hX 0 rfl d_Wt_codeForTwo_167 ?_
              refine G_if_eq_z hX (tgt := 185) d_Wt_codeForTwo_169 rfl (by omega) (fun c47 => by exfalso; omega) (fun c48 => ?_)
              have hm1 := h1 (by omega)
              refine G_sipush hX (by decide) d_Wt_codeForTwo_172 ?_
              refine G_aload_n hX 3 rfl rfl d_Wt_codeForTwo_175 ?_
              refine F_get hX fg_Wt_32 d_Wt_codeForTwo_176 29 (by decide) hT rfl ?_
              refine G_iload_n hX 5 rfl rfl d_Wt_codeForTwo_179 ?_
              refine F_iald hX d_Wt_codeForTwo_180 40 (by decide) hmo (by omega) ?_
              refine G_iadd_z hX d_Wt_codeForTwo_181 ?_
              refine G_goto hX (tgt := 186) d_Wt_codeForTwo_182 rfl ?_
              exact F_iret hX hE d_Wt_codeForTwo_186 ⟨by first | (exfalso; omega) | (unfold c2F; (repeat (first | rw [if_pos (by omega)] | rw [if_neg (by omega)]))), rfl⟩
    · skip
      refine G_iload_n hX 1 rfl rfl d_Wt_codeForTwo_39 ?_
      refine G_iconst hX d_Wt_codeForTwo_40 ?_
      refine G_icmp_gt_z hX (tgt := 127) d_Wt_codeForTwo_41 rfl (by omega) (fun c49 => ?_) (fun c50 => ?_)
      · skip
        refine G_aload_n hX 3 rfl rfl d_Wt_codeForTwo_127 ?_
        refine F_get hX fg_Wt_108 d_Wt_codeForTwo_128 22 (by decide) hP.1 rfl ?_
        refine G_iload_n hX 4 rfl rfl d_Wt_codeForTwo_131 ?_
        refine F_iald hX d_Wt_codeForTwo_132 23 (by decide) hP.2.1 (by omega) ?_
        have b51 := hB i
        refine G_iconst hX d_Wt_codeForTwo_133 ?_
        refine G_icmp_ne_z hX (tgt := 164) d_Wt_codeForTwo_134 rfl (by omega) (fun c52 => ?_) (fun c53 => ?_)
        · skip
          refine G_iconst hX d_Wt_codeForTwo_164 ?_
          refine G_istore hX (lv' := [(5, .int (zI 0)), (4, .int (zI ((pS P) (i + 1)))), (3, .int (zI ((pS P) i))), (0, .ref (eA E 29)), (1, .ref (eA E 22)), (2, .int (zI i))]) (by decide) rfl d_Wt_codeForTwo_165 ?_
          refine G_iload hX 0 rfl d_Wt_codeForTwo_167 ?_
          refine G_if_eq_z hX (tgt := 185) d_Wt_codeForTwo_169 rfl (by omega) (fun c54 => ?_) (fun c55 => by exfalso; omega)
          refine G_iconst hX d_Wt_codeForTwo_185 ?_
          exact F_iret hX hE d_Wt_codeForTwo_186 ⟨by first | (exfalso; omega) | (unfold c2F; (repeat (first | rw [if_pos (by omega)] | rw [if_neg (by omega)]))), rfl⟩
        · skip
          refine G_iload_n hX 1 rfl rfl d_Wt_codeForTwo_137 ?_
          refine G_iconst hX d_Wt_codeForTwo_138 ?_
          refine G_icmp_ne_z hX (tgt := 164) d_Wt_codeForTwo_139 rfl (by omega) (fun c56 => ?_) (fun c57 => ?_)
          · skip
            refine G_iconst hX d_Wt_codeForTwo_164 ?_
            refine G_istore hX (lv' := [(5, .int (zI 0)), (4, .int (zI ((pS P) (i + 1)))), (3, .int (zI ((pS P) i))), (0, .ref (eA E 29)), (1, .ref (eA E 22)), (2, .int (zI i))]) (by decide) rfl d_Wt_codeForTwo_165 ?_
            refine G_iload hX 0 rfl d_Wt_codeForTwo_167 ?_
            refine G_if_eq_z hX (tgt := 185) d_Wt_codeForTwo_169 rfl (by omega) (fun c58 => ?_) (fun c59 => by exfalso; omega)
            refine G_iconst hX d_Wt_codeForTwo_185 ?_
            exact F_iret hX hE d_Wt_codeForTwo_186 ⟨by first | (exfalso; omega) | (unfold c2F; (repeat (first | rw [if_pos (by omega)] | rw [if_neg (by omega)]))), rfl⟩
          · skip
            refine G_aload_n hX 3 rfl rfl d_Wt_codeForTwo_142 ?_
            refine F_get hX fg_Wt_108 d_Wt_codeForTwo_143 22 (by decide) hP.1 rfl ?_
            refine G_iload_n hX 4 rfl rfl d_Wt_codeForTwo_146 ?_
            refine G_iconst hX d_Wt_codeForTwo_147 ?_
            refine G_iadd_z hX d_Wt_codeForTwo_148 ?_
            refine F_iald hX d_Wt_codeForTwo_149 23 (by decide) hP.2.1 (by omega) ?_
            have b60 := hB (i + 1)
            refine G_iconst hX d_Wt_codeForTwo_150 ?_
            refine G_icmp_ne_z hX (tgt := 164) d_Wt_codeForTwo_151 rfl (by omega) (fun c61 => ?_) (fun c62 => ?_)
            · skip
              refine G_iconst hX d_Wt_codeForTwo_164 ?_
              refine G_istore hX (lv' := [(5, .int (zI 0)), (4, .int (zI ((pS P) (i + 1)))), (3, .int (zI ((pS P) i))), (0, .ref (eA E 29)), (1, .ref (eA E 22)), (2, .int (zI i))]) (by decide) rfl d_Wt_codeForTwo_165 ?_
              refine G_iload hX 0 rfl d_Wt_codeForTwo_167 ?_
              refine G_if_eq_z hX (tgt := 185) d_Wt_codeForTwo_169 rfl (by omega) (fun c63 => ?_) (fun c64 => by exfalso; omega)
              refine G_iconst hX d_Wt_codeForTwo_185 ?_
              exact F_iret hX hE d_Wt_codeForTwo_186 ⟨by first | (exfalso; omega) | (unfold c2F; (repeat (first | rw [if_pos (by omega)] | rw [if_neg (by omega)]))), rfl⟩
            · skip
              refine G_iload hX 0 rfl d_Wt_codeForTwo_154 ?_
              refine G_iconst hX d_Wt_codeForTwo_156 ?_
              refine G_icmp_ne_z hX (tgt := 164) d_Wt_codeForTwo_157 rfl (by omega) (fun c65 => ?_) (fun c66 => ?_)
              · skip
                refine G_iconst hX d_Wt_codeForTwo_164 ?_
                refine G_istore hX (lv' := [(5, .int (zI 0)), (4, .int (zI ((pS P) (i + 1)))), (3, .int (zI ((pS P) i))), (0, .ref (eA E 29)), (1, .ref (eA E 22)), (2, .int (zI i))]) (by decide) rfl d_Wt_codeForTwo_165 ?_
                refine G_iload hX 0 rfl d_Wt_codeForTwo_167 ?_
                refine G_if_eq_z hX (tgt := 185) d_Wt_codeForTwo_169 rfl (by omega) (fun c67 => ?_) (fun c68 => by exfalso; omega)
                refine G_iconst hX d_Wt_codeForTwo_185 ?_
                exact F_iret hX hE d_Wt_codeForTwo_186 ⟨by first | (exfalso; omega) | (unfold c2F; (repeat (first | rw [if_pos (by omega)] | rw [if_neg (by omega)]))), rfl⟩
              · skip
                refine G_iconst hX d_Wt_codeForTwo_160 ?_
                refine G_goto hX (tgt := 165) d_Wt_codeForTwo_161 rfl ?_
                refine G_istore hX (lv' := [(5, .int (zI 1)), (4, .int (zI ((pS P) (i + 1)))), (3, .int (zI ((pS P) i))), (0, .ref (eA E 29)), (1, .ref (eA E 22)), (2, .int (zI i))]) (by decide) rfl d_Wt_codeForTwo_165 ?_
                refine G_iload hX 0 rfl d_Wt_codeForTwo_167 ?_
                refine G_if_eq_z hX (tgt := 185) d_Wt_codeForTwo_169 rfl (by omega) (fun c69 => by exfalso; omega) (fun c70 => ?_)
                have hm1 := h1 (by omega)
                refine G_sipush hX (by decide) d_Wt_codeForTwo_172 ?_
                refine G_aload_n hX 3 rfl rfl d_Wt_codeForTwo_175 ?_
                refine F_get hX fg_Wt_32 d_Wt_codeForTwo_176 29 (by decide) hT rfl ?_
                refine G_iload_n hX 5 rfl rfl d_Wt_codeForTwo_179 ?_
                refine F_iald hX d_Wt_codeForTwo_180 40 (by decide) hmo (by omega) ?_
                refine G_iadd_z hX d_Wt_codeForTwo_181 ?_
                refine G_goto hX (tgt := 186) d_Wt_codeForTwo_182 rfl ?_
                exact F_iret hX hE d_Wt_codeForTwo_186 ⟨by first | (exfalso; omega) | (unfold c2F; (repeat (first | rw [if_pos (by omega)] | rw [if_neg (by omega)]))), rfl⟩
      · skip
        have hm2 := h2 (by omega)
        refine G_aload_n hX 2 rfl rfl d_Wt_codeForTwo_44 ?_
        refine F_get hX fg_Wt_32 d_Wt_codeForTwo_45 29 (by decide) hT rfl ?_
        refine G_iload_n hX 4 rfl rfl d_Wt_codeForTwo_48 ?_
        refine G_iconst hX d_Wt_codeForTwo_49 ?_
        refine G_iadd_z hX d_Wt_codeForTwo_50 ?_
        refine F_iald hX d_Wt_codeForTwo_51 40 (by decide) hmo (by omega) ?_
        refine G_istore hX (lv' := [(5, .int (zI (md0 (i + 1)))), (4, .int (zI ((pS P) (i + 1)))), (3, .int (zI ((pS P) i))), (0, .ref (eA E 29)), (1, .ref (eA E 22)), (2, .int (zI i))]) (by decide) rfl d_Wt_codeForTwo_52 ?_
        refine G_iload hX 0 rfl d_Wt_codeForTwo_54 ?_
        refine G_iconst hX d_Wt_codeForTwo_56 ?_
        refine G_icmp_gt_z hX (tgt := 94) d_Wt_codeForTwo_57 rfl (by omega) (fun c71 => ?_) (fun c72 => ?_)
        · skip
          refine G_iload hX 0 rfl d_Wt_codeForTwo_94 ?_
          refine G_bipush hX (by decide) d_Wt_codeForTwo_96 ?_
          refine G_icmp_lt_z hX (tgt := 125) d_Wt_codeForTwo_98 rfl (by omega) (fun c73 => ?_) (fun c74 => ?_)
          · skip
            refine G_iconst hX d_Wt_codeForTwo_125 ?_
            exact F_iret hX hE d_Wt_codeForTwo_126 ⟨by first | (exfalso; omega) | (unfold c2F; (repeat (first | rw [if_pos (by omega)] | rw [if_neg (by omega)]))), rfl⟩
          · skip
            refine G_iload hX 1 rfl d_Wt_codeForTwo_101 ?_
            refine G_iconst hX d_Wt_codeForTwo_103 ?_
            refine G_icmp_ne_z hX (tgt := 125) d_Wt_codeForTwo_104 rfl (by omega) (fun c75 => ?_) (fun c76 => ?_)
            · skip
              refine G_iconst hX d_Wt_codeForTwo_125 ?_
              exact F_iret hX hE d_Wt_codeForTwo_126 ⟨by first | (exfalso; omega) | (unfold c2F; (repeat (first | rw [if_pos (by omega)] | rw [if_neg (by omega)]))), rfl⟩
            · skip
              refine G_sipush hX (by decide) d_Wt_codeForTwo_107 ?_
              refine G_iconst hX d_Wt_codeForTwo_110 ?_
              refine G_iload hX 0 rfl d_Wt_codeForTwo_111 ?_
              refine G_bipush hX (by decide) d_Wt_codeForTwo_113 ?_
              refine G_isub_z hX d_Wt_codeForTwo_115 ?_
              refine G_imul_z hX d_Wt_codeForTwo_116 ?_
              refine G_iadd_z hX d_Wt_codeForTwo_117 ?_
              refine G_iload_n hX 2 rfl rfl d_Wt_codeForTwo_118 ?_
              refine G_iadd_z hX d_Wt_codeForTwo_119 ?_
              refine G_iconst hX d_Wt_codeForTwo_120 ?_
              refine G_isub_z hX d_Wt_codeForTwo_121 ?_
              refine G_goto hX (tgt := 126) d_Wt_codeForTwo_122 rfl ?_
              exact F_iret hX hE d_Wt_codeForTwo_126 ⟨by first | (exfalso; omega) | (unfold c2F; (repeat (first | rw [if_pos (by omega)] | rw [if_neg (by omega)]))), rfl⟩
        · skip
          refine G_iload hX 1 rfl d_Wt_codeForTwo_60 ?_
          refine G_iconst hX d_Wt_codeForTwo_62 ?_
          refine G_icmp_lt_z hX (tgt := 94) d_Wt_codeForTwo_63 rfl (by omega) (fun c77 => ?_) (fun c78 => ?_)
          · skip
            refine G_iload hX 0 rfl d_Wt_codeForTwo_94 ?_
            refine G_bipush hX (by decide) d_Wt_codeForTwo_96 ?_
            refine G_icmp_lt_z hX (tgt := 125) d_Wt_codeForTwo_98 rfl (by omega) (fun c79 => ?_) (fun c80 => ?_)
            · skip
              refine G_iconst hX d_Wt_codeForTwo_125 ?_
              exact F_iret hX hE d_Wt_codeForTwo_126 ⟨by first | (exfalso; omega) | (unfold c2F; (repeat (first | rw [if_pos (by omega)] | rw [if_neg (by omega)]))), rfl⟩
            · skip
              refine G_iload hX 1 rfl d_Wt_codeForTwo_101 ?_
              refine G_iconst hX d_Wt_codeForTwo_103 ?_
              refine G_icmp_ne_z hX (tgt := 125) d_Wt_codeForTwo_104 rfl (by omega) (fun c81 => ?_) (fun c82 => ?_)
              · skip
                refine G_iconst hX d_Wt_codeForTwo_125 ?_
                exact F_iret hX hE d_Wt_codeForTwo_126 ⟨by first | (exfalso; omega) | (unfold c2F; (repeat (first | rw [if_pos (by omega)] | rw [if_neg (by omega)]))), rfl⟩
              · skip
                refine G_sipush hX (by decide) d_Wt_codeForTwo_107 ?_
                refine G_iconst hX d_Wt_codeForTwo_110 ?_
                refine G_iload hX 0 rfl d_Wt_codeForTwo_111 ?_
                refine G_bipush hX (by decide) d_Wt_codeForTwo_113 ?_
                refine G_isub_z hX d_Wt_codeForTwo_115 ?_
                refine G_imul_z hX d_Wt_codeForTwo_116 ?_
                refine G_iadd_z hX d_Wt_codeForTwo_117 ?_
                refine G_iload_n hX 2 rfl rfl d_Wt_codeForTwo_118 ?_
                refine G_iadd_z hX d_Wt_codeForTwo_119 ?_
                refine G_iconst hX d_Wt_codeForTwo_120 ?_
                refine G_isub_z hX d_Wt_codeForTwo_121 ?_
                refine G_goto hX (tgt := 126) d_Wt_codeForTwo_122 rfl ?_
                exact F_iret hX hE d_Wt_codeForTwo_126 ⟨by first | (exfalso; omega) | (unfold c2F; (repeat (first | rw [if_pos (by omega)] | rw [if_neg (by omega)]))), rfl⟩
          · skip
            refine G_iload hX 1 rfl d_Wt_codeForTwo_66 ?_
            refine G_bipush hX (by decide) d_Wt_codeForTwo_68 ?_
            refine G_icmp_gt_z hX (tgt := 94) d_Wt_codeForTwo_70 rfl (by omega) (fun c83 => ?_) (fun c84 => ?_)
            · skip
              refine G_iload hX 0 rfl d_Wt_codeForTwo_94 ?_
              refine G_bipush hX (by decide) d_Wt_codeForTwo_96 ?_
              refine G_icmp_lt_z hX (tgt := 125) d_Wt_codeForTwo_98 rfl (by omega) (fun c85 => ?_) (fun c86 => ?_)
              · skip
                refine G_iconst hX d_Wt_codeForTwo_125 ?_
                exact F_iret hX hE d_Wt_codeForTwo_126 ⟨by first | (exfalso; omega) | (unfold c2F; (repeat (first | rw [if_pos (by omega)] | rw [if_neg (by omega)]))), rfl⟩
              · skip
                refine G_iload hX 1 rfl d_Wt_codeForTwo_101 ?_
                refine G_iconst hX d_Wt_codeForTwo_103 ?_
                refine G_icmp_ne_z hX (tgt := 125) d_Wt_codeForTwo_104 rfl (by omega) (fun c87 => ?_) (fun c88 => ?_)
                · skip
                  refine G_iconst hX d_Wt_codeForTwo_125 ?_
                  exact F_iret hX hE d_Wt_codeForTwo_126 ⟨by first | (exfalso; omega) | (unfold c2F; (repeat (first | rw [if_pos (by omega)] | rw [if_neg (by omega)]))), rfl⟩
                · skip
                  refine G_sipush hX (by decide) d_Wt_codeForTwo_107 ?_
                  refine G_iconst hX d_Wt_codeForTwo_110 ?_
                  refine G_iload hX 0 rfl d_Wt_codeForTwo_111 ?_
                  refine G_bipush hX (by decide) d_Wt_codeForTwo_113 ?_
                  refine G_isub_z hX d_Wt_codeForTwo_115 ?_
                  refine G_imul_z hX d_Wt_codeForTwo_116 ?_
                  refine G_iadd_z hX d_Wt_codeForTwo_117 ?_
                  refine G_iload_n hX 2 rfl rfl d_Wt_codeForTwo_118 ?_
                  refine G_iadd_z hX d_Wt_codeForTwo_119 ?_
                  refine G_iconst hX d_Wt_codeForTwo_120 ?_
                  refine G_isub_z hX d_Wt_codeForTwo_121 ?_
                  refine G_goto hX (tgt := 126) d_Wt_codeForTwo_122 rfl ?_
                  exact F_iret hX hE d_Wt_codeForTwo_126 ⟨by first | (exfalso; omega) | (unfold c2F; (repeat (first | rw [if_pos (by omega)] | rw [if_neg (by omega)]))), rfl⟩
            · skip
              refine G_sipush hX (by decide) d_Wt_codeForTwo_73 ?_
              refine G_bipush hX (by decide) d_Wt_codeForTwo_76 ?_
              refine G_iload hX 0 rfl d_Wt_codeForTwo_78 ?_
              refine G_imul_z hX d_Wt_codeForTwo_80 ?_
              refine G_iadd_z hX d_Wt_codeForTwo_81 ?_
              refine G_iconst hX d_Wt_codeForTwo_82 ?_
              refine G_iload_n hX 2 rfl rfl d_Wt_codeForTwo_83 ?_
              refine G_iconst hX d_Wt_codeForTwo_84 ?_
              refine G_isub_z hX d_Wt_codeForTwo_85 ?_
              refine G_imul_z hX d_Wt_codeForTwo_86 ?_
              refine G_iadd_z hX d_Wt_codeForTwo_87 ?_
              refine G_iload hX 1 rfl d_Wt_codeForTwo_88 ?_
              refine G_iadd_z hX d_Wt_codeForTwo_90 ?_
              refine G_iconst hX d_Wt_codeForTwo_91 ?_
              refine G_isub_z hX d_Wt_codeForTwo_92 ?_
              exact F_iret hX hE d_Wt_codeForTwo_93 ⟨by first | (exfalso; omega) | (unfold c2F; (repeat (first | rw [if_pos (by omega)] | rw [if_neg (by omega)]))), rfl⟩
theorem c_Wt_writeCode (E : EV) (f : Nat → va_E) (b : Int) (g : Int → Int) (c : Int) (L : List Int) (t n m : Int) (hT : isWt E f b) (hR : isR E f 36 37 768 g c) (hL : rep g c L) (hb : 0 ≤ c ∧ c + 3 ≤ 768 ∧ 1 ≤ n ∧ n ≤ 300 ∧ 1 ≤ t ∧ t ≤ 3) : CF yn_Wt_writeCode cd_Wt_writeCode 4 none 2 E [.ref (eA E 29), .int (zI t), .int (zI n), .int (zI m)] f (fun r f' => r = none ∧ (∃ g' c', isR E f' 36 37 768 g' c' ∧ rep g' c' (L ++ c1L t n m)) ∧ Fr [36, 37] f f') := by
  refine CF.of (by decide +kernel) (Nat.le_of_ble_eq_true rfl) fun X hX hE => ?_
  have hX : Ok E X "DeltaFerry$Writer" "writeCode" cd_Wt_writeCode 4 none (rl 2) := hX
  refine G_cast (lv' := [(0, .ref (eA E 29)), (1, .int (zI t)), (2, .int (zI n)), (3, .int (zI m))]) ?_ rfl rfl rfl rfl
  have hwn := wid_2 (v := n) (by omega)
  refine G_iload_n hX 1 rfl rfl d_Wt_writeCode_0 ?_
  refine G_iconst hX d_Wt_writeCode_1 ?_
  refine G_icmp_ne_z hX (tgt := 24) d_Wt_writeCode_2 rfl (by omega) (fun c1 => ?_) (fun c2 => ?_)
  · skip
    refine G_iload_n hX 1 rfl rfl d_Wt_writeCode_24 ?_
    refine G_iconst hX d_Wt_writeCode_25 ?_
    refine G_icmp_ne_z hX (tgt := 61) d_Wt_writeCode_26 rfl (by omega) (fun c3 => ?_) (fun c4 => ?_)
    · skip
      refine G_aload_n hX 0 rfl rfl d_Wt_writeCode_61 ?_
      refine F_get hX fg_Wt_26 d_Wt_writeCode_62 29 (by decide) hT rfl ?_
      refine G_iload_n hX 1 rfl rfl d_Wt_writeCode_65 ?_
      refine G_iconst hX d_Wt_writeCode_66 ?_
      refine G_icmp_ne_z hX (tgt := 74) d_Wt_writeCode_67 rfl (by omega) (fun c5 => ?_) (fun c6 => ?_)
      · skip
        refine G_iload_n hX 1 rfl rfl d_Wt_writeCode_74 ?_
        refine G_iconst hX d_Wt_writeCode_75 ?_
        refine G_icmp_ne_z hX (tgt := 83) d_Wt_writeCode_76 rfl (by omega) (fun c7 => ?_) (fun c8 => ?_)
        · skip
          refine G_bipush hX (by decide) d_Wt_writeCode_83 ?_
          refine G_bipush hX (by decide) d_Wt_writeCode_85 ?_
          refine G_iload_n hX 3 rfl rfl d_Wt_writeCode_87 ?_
          refine G_imul_z hX d_Wt_writeCode_88 ?_
          refine G_iadd_z hX d_Wt_writeCode_89 ?_
          refine F_callV hX (st := []) (c_Ro_push E f 36 37 768 g c (19 + (16 * m)) (by decide) (by decide) (by decide) ⟨hR.1, hR.2⟩ (by omega) (by omega)) cm_Ro_push im_Ro_push se_Ro_push rfl ml_Wt_50 d_Wt_writeCode_90 (by decide) hR.1 rfl rfl (Nat.le_of_ble_eq_true rfl) (by decide) ?_
          rintro _ f9 ⟨rfl, ⟨h12, h13⟩, k14⟩
          refine G_cast (st' := []) ?_ rfl rfl rfl rfl
          have rp15 := rep_uz (v := 19 + (16 * m)) hL
          refine G_aload_n hX 0 rfl rfl d_Wt_writeCode_93 ?_
          have h16 : f9 29 = ob 10 [.ref (eA E 30), .ref (eA E 32), .ref (eA E 34), .ref (eA E 36), .ref (eA E 38), .ref (eA E 40), .ref (eA E 41), .int (zI b)] := (k14 29 (by decide)).trans hT
          refine F_get hX fg_Wt_26 d_Wt_writeCode_94 29 (by decide) h16 rfl ?_
          refine G_iload_n hX 2 rfl rfl d_Wt_writeCode_97 ?_
          refine F_callV hX (st := []) (c_Ro_pushNumber E f9 36 37 768 (uz g c (19 + (16 * m))) (c + 1) n (by decide) (by decide) (by decide) ⟨h12, h13⟩ (by omega) (by omega) (by omega)) cm_Ro_pushNumber im_Ro_pushNumber se_Ro_pushNumber rfl ml_Wt_97 d_Wt_writeCode_98 (by decide) h12 rfl rfl (Nat.le_of_ble_eq_true rfl) (by decide) ?_
          rintro _ f17 ⟨rfl, ⟨h20, h21⟩, k22⟩
          refine G_cast (st' := []) ?_ rfl rfl rfl rfl
          have rp23 := rep_nb (v := n) rp15
          have e1 : c1L t n m = [19 + (16 * m)] ++ nbL n := by first | (exfalso; omega) | (unfold c1L; (repeat (first | rw [if_pos (by omega)] | rw [if_neg (by omega)])))
          exact F_vret hX hE d_Wt_writeCode_101 ⟨rfl, ⟨_, _, ⟨h20, h21⟩, by rw [e1, ← List.append_assoc]; exact rp23⟩, (Fr.tr (Fr.tr Fr.rf k14 (by decide)) k22 (by decide))⟩
        · skip
          refine G_iconst hX d_Wt_writeCode_79 ?_
          refine G_goto hX (tgt := 90) d_Wt_writeCode_80 rfl ?_
          refine F_callV hX (st := []) (c_Ro_push E f 36 37 768 g c 1 (by decide) (by decide) (by decide) ⟨hR.1, hR.2⟩ (by omega) (by omega)) cm_Ro_push im_Ro_push se_Ro_push rfl ml_Wt_50 d_Wt_writeCode_90 (by decide) hR.1 rfl rfl (Nat.le_of_ble_eq_true rfl) (by decide) ?_
          rintro _ f24 ⟨rfl, ⟨h27, h28⟩, k29⟩
          refine G_cast (st' := []) ?_ rfl rfl rfl rfl
          have rp30 := rep_uz (v := 1) hL
          refine G_aload_n hX 0 rfl rfl d_Wt_writeCode_93 ?_
          have h31 : f24 29 = ob 10 [.ref (eA E 30), .ref (eA E 32), .ref (eA E 34), .ref (eA E 36), .ref (eA E 38), .ref (eA E 40), .ref (eA E 41), .int (zI b)] := (k29 29 (by decide)).trans hT
          refine F_get hX fg_Wt_26 d_Wt_writeCode_94 29 (by decide) h31 rfl ?_
          refine G_iload_n hX 2 rfl rfl d_Wt_writeCode_97 ?_
          refine F_callV hX (st := []) (c_Ro_pushNumber E f24 36 37 768 (uz g c 1) (c + 1) n (by decide) (by decide) (by decide) ⟨h27, h28⟩ (by omega) (by omega) (by omega)) cm_Ro_pushNumber im_Ro_pushNumber se_Ro_pushNumber rfl ml_Wt_97 d_Wt_writeCode_98 (by decide) h27 rfl rfl (Nat.le_of_ble_eq_true rfl) (by decide) ?_
          rintro _ f32 ⟨rfl, ⟨h35, h36⟩, k37⟩
          refine G_cast (st' := []) ?_ rfl rfl rfl rfl
          have rp38 := rep_nb (v := n) rp30
          have e1 : c1L t n m = [1] ++ nbL n := by first | (exfalso; omega) | (unfold c1L; (repeat (first | rw [if_pos (by omega)] | rw [if_neg (by omega)])))
          exact F_vret hX hE d_Wt_writeCode_101 ⟨rfl, ⟨_, _, ⟨h35, h36⟩, by rw [e1, ← List.append_assoc]; exact rp38⟩, (Fr.tr (Fr.tr Fr.rf k29 (by decide)) k37 (by decide))⟩
      · skip
        refine G_iconst hX d_Wt_writeCode_70 ?_
        refine G_goto hX (tgt := 90) d_Wt_writeCode_71 rfl ?_
        refine F_callV hX (st := []) (c_Ro_push E f 36 37 768 g c 0 (by decide) (by decide) (by decide) ⟨hR.1, hR.2⟩ (by omega) (by omega)) cm_Ro_push im_Ro_push se_Ro_push rfl ml_Wt_50 d_Wt_writeCode_90 (by decide) hR.1 rfl rfl (Nat.le_of_ble_eq_true rfl) (by decide) ?_
        rintro _ f39 ⟨rfl, ⟨h42, h43⟩, k44⟩
        refine G_cast (st' := []) ?_ rfl rfl rfl rfl
        have rp45 := rep_uz (v := 0) hL
        refine G_aload_n hX 0 rfl rfl d_Wt_writeCode_93 ?_
        have h46 : f39 29 = ob 10 [.ref (eA E 30), .ref (eA E 32), .ref (eA E 34), .ref (eA E 36), .ref (eA E 38), .ref (eA E 40), .ref (eA E 41), .int (zI b)] := (k44 29 (by decide)).trans hT
        refine F_get hX fg_Wt_26 d_Wt_writeCode_94 29 (by decide) h46 rfl ?_
        refine G_iload_n hX 2 rfl rfl d_Wt_writeCode_97 ?_
        refine F_callV hX (st := []) (c_Ro_pushNumber E f39 36 37 768 (uz g c 0) (c + 1) n (by decide) (by decide) (by decide) ⟨h42, h43⟩ (by omega) (by omega) (by omega)) cm_Ro_pushNumber im_Ro_pushNumber se_Ro_pushNumber rfl ml_Wt_97 d_Wt_writeCode_98 (by decide) h42 rfl rfl (Nat.le_of_ble_eq_true rfl) (by decide) ?_
        rintro _ f47 ⟨rfl, ⟨h50, h51⟩, k52⟩
        refine G_cast (st' := []) ?_ rfl rfl rfl rfl
        have rp53 := rep_nb (v := n) rp45
        have e1 : c1L t n m = [0] ++ nbL n := by first | (exfalso; omega) | (unfold c1L; (repeat (first | rw [if_pos (by omega)] | rw [if_neg (by omega)])))
        exact F_vret hX hE d_Wt_writeCode_101 ⟨rfl, ⟨_, _, ⟨h50, h51⟩, by rw [e1, ← List.append_assoc]; exact rp53⟩, (Fr.tr (Fr.tr Fr.rf k44 (by decide)) k52 (by decide))⟩
    · skip
      refine G_iload_n hX 2 rfl rfl d_Wt_writeCode_29 ?_
      refine G_iconst hX d_Wt_writeCode_30 ?_
      refine G_icmp_lt_z hX (tgt := 61) d_Wt_writeCode_31 rfl (by omega) (fun c54 => ?_) (fun c55 => ?_)
      · skip
        refine G_aload_n hX 0 rfl rfl d_Wt_writeCode_61 ?_
        refine F_get hX fg_Wt_26 d_Wt_writeCode_62 29 (by decide) hT rfl ?_
        refine G_iload_n hX 1 rfl rfl d_Wt_writeCode_65 ?_
        refine G_iconst hX d_Wt_writeCode_66 ?_
        refine G_icmp_ne_z hX (tgt := 74) d_Wt_writeCode_67 rfl (by omega) (fun c56 => ?_) (fun c57 => ?_)
        · skip
          refine G_iload_n hX 1 rfl rfl d_Wt_writeCode_74 ?_
          refine G_iconst hX d_Wt_writeCode_75 ?_
          refine G_icmp_ne_z hX (tgt := 83) d_Wt_writeCode_76 rfl (by omega) (fun c58 => ?_) (fun c59 => ?_)
          · skip
            refine G_bipush hX (by decide) d_Wt_writeCode_83 ?_
            refine G_bipush hX (by decide) d_Wt_writeCode_85 ?_
            refine G_iload_n hX 3 rfl rfl d_Wt_writeCode_87 ?_
            refine G_imul_z hX d_Wt_writeCode_88 ?_
            refine G_iadd_z hX d_Wt_writeCode_89 ?_
            refine F_callV hX (st := []) (c_Ro_push E f 36 37 768 g c (19 + (16 * m)) (by decide) (by decide) (by decide) ⟨hR.1, hR.2⟩ (by omega) (by omega)) cm_Ro_push im_Ro_push se_Ro_push rfl ml_Wt_50 d_Wt_writeCode_90 (by decide) hR.1 rfl rfl (Nat.le_of_ble_eq_true rfl) (by decide) ?_
            rintro _ f60 ⟨rfl, ⟨h63, h64⟩, k65⟩
            refine G_cast (st' := []) ?_ rfl rfl rfl rfl
            have rp66 := rep_uz (v := 19 + (16 * m)) hL
            refine G_aload_n hX 0 rfl rfl d_Wt_writeCode_93 ?_
            have h67 : f60 29 = ob 10 [.ref (eA E 30), .ref (eA E 32), .ref (eA E 34), .ref (eA E 36), .ref (eA E 38), .ref (eA E 40), .ref (eA E 41), .int (zI b)] := (k65 29 (by decide)).trans hT
            refine F_get hX fg_Wt_26 d_Wt_writeCode_94 29 (by decide) h67 rfl ?_
            refine G_iload_n hX 2 rfl rfl d_Wt_writeCode_97 ?_
            refine F_callV hX (st := []) (c_Ro_pushNumber E f60 36 37 768 (uz g c (19 + (16 * m))) (c + 1) n (by decide) (by decide) (by decide) ⟨h63, h64⟩ (by omega) (by omega) (by omega)) cm_Ro_pushNumber im_Ro_pushNumber se_Ro_pushNumber rfl ml_Wt_97 d_Wt_writeCode_98 (by decide) h63 rfl rfl (Nat.le_of_ble_eq_true rfl) (by decide) ?_
            rintro _ f68 ⟨rfl, ⟨h71, h72⟩, k73⟩
            refine G_cast (st' := []) ?_ rfl rfl rfl rfl
            have rp74 := rep_nb (v := n) rp66
            have e1 : c1L t n m = [19 + (16 * m)] ++ nbL n := by first | (exfalso; omega) | (unfold c1L; (repeat (first | rw [if_pos (by omega)] | rw [if_neg (by omega)])))
            exact F_vret hX hE d_Wt_writeCode_101 ⟨rfl, ⟨_, _, ⟨h71, h72⟩, by rw [e1, ← List.append_assoc]; exact rp74⟩, (Fr.tr (Fr.tr Fr.rf k65 (by decide)) k73 (by decide))⟩
          · skip
            refine G_iconst hX d_Wt_writeCode_79 ?_
            refine G_goto hX (tgt := 90) d_Wt_writeCode_80 rfl ?_
            refine F_callV hX (st := []) (c_Ro_push E f 36 37 768 g c 1 (by decide) (by decide) (by decide) ⟨hR.1, hR.2⟩ (by omega) (by omega)) cm_Ro_push im_Ro_push se_Ro_push rfl ml_Wt_50 d_Wt_writeCode_90 (by decide) hR.1 rfl rfl (Nat.le_of_ble_eq_true rfl) (by decide) ?_
            rintro _ f75 ⟨rfl, ⟨h78, h79⟩, k80⟩
            refine G_cast (st' := []) ?_ rfl rfl rfl rfl
            have rp81 := rep_uz (v := 1) hL
            refine G_aload_n hX 0 rfl rfl d_Wt_writeCode_93 ?_
            have h82 : f75 29 = ob 10 [.ref (eA E 30), .ref (eA E 32), .ref (eA E 34), .ref (eA E 36), .ref (eA E 38), .ref (eA E 40), .ref (eA E 41), .int (zI b)] := (k80 29 (by decide)).trans hT
            refine F_get hX fg_Wt_26 d_Wt_writeCode_94 29 (by decide) h82 rfl ?_
            refine G_iload_n hX 2 rfl rfl d_Wt_writeCode_97 ?_
            refine F_callV hX (st := []) (c_Ro_pushNumber E f75 36 37 768 (uz g c 1) (c + 1) n (by decide) (by decide) (by decide) ⟨h78, h79⟩ (by omega) (by omega) (by omega)) cm_Ro_pushNumber im_Ro_pushNumber se_Ro_pushNumber rfl ml_Wt_97 d_Wt_writeCode_98 (by decide) h78 rfl rfl (Nat.le_of_ble_eq_true rfl) (by decide) ?_
            rintro _ f83 ⟨rfl, ⟨h86, h87⟩, k88⟩
            refine G_cast (st' := []) ?_ rfl rfl rfl rfl
            have rp89 := rep_nb (v := n) rp81
            have e1 : c1L t n m = [1] ++ nbL n := by first | (exfalso; omega) | (unfold c1L; (repeat (first | rw [if_pos (by omega)] | rw [if_neg (by omega)])))
            exact F_vret hX hE d_Wt_writeCode_101 ⟨rfl, ⟨_, _, ⟨h86, h87⟩, by rw [e1, ← List.append_assoc]; exact rp89⟩, (Fr.tr (Fr.tr Fr.rf k80 (by decide)) k88 (by decide))⟩
        · skip
          refine G_iconst hX d_Wt_writeCode_70 ?_
          refine G_goto hX (tgt := 90) d_Wt_writeCode_71 rfl ?_
          refine F_callV hX (st := []) (c_Ro_push E f 36 37 768 g c 0 (by decide) (by decide) (by decide) ⟨hR.1, hR.2⟩ (by omega) (by omega)) cm_Ro_push im_Ro_push se_Ro_push rfl ml_Wt_50 d_Wt_writeCode_90 (by decide) hR.1 rfl rfl (Nat.le_of_ble_eq_true rfl) (by decide) ?_
          rintro _ f90 ⟨rfl, ⟨h93, h94⟩, k95⟩
          refine G_cast (st' := []) ?_ rfl rfl rfl rfl
          have rp96 := rep_uz (v := 0) hL
          refine G_aload_n hX 0 rfl rfl d_Wt_writeCode_93 ?_
          have h97 : f90 29 = ob 10 [.ref (eA E 30), .ref (eA E 32), .ref (eA E 34), .ref (eA E 36), .ref (eA E 38), .ref (eA E 40), .ref (eA E 41), .int (zI b)] := (k95 29 (by decide)).trans hT
          refine F_get hX fg_Wt_26 d_Wt_writeCode_94 29 (by decide) h97 rfl ?_
          refine G_iload_n hX 2 rfl rfl d_Wt_writeCode_97 ?_
          refine F_callV hX (st := []) (c_Ro_pushNumber E f90 36 37 768 (uz g c 0) (c + 1) n (by decide) (by decide) (by decide) ⟨h93, h94⟩ (by omega) (by omega) (by omega)) cm_Ro_pushNumber im_Ro_pushNumber se_Ro_pushNumber rfl ml_Wt_97 d_Wt_writeCode_98 (by decide) h93 rfl rfl (Nat.le_of_ble_eq_true rfl) (by decide) ?_
          rintro _ f98 ⟨rfl, ⟨h101, h102⟩, k103⟩
          refine G_cast (st' := []) ?_ rfl rfl rfl rfl
          have rp104 := rep_nb (v := n) rp96
          have e1 : c1L t n m = [0] ++ nbL n := by first | (exfalso; omega) | (unfold c1L; (repeat (first | rw [if_pos (by omega)] | rw [if_neg (by omega)])))
          exact F_vret hX hE d_Wt_writeCode_101 ⟨rfl, ⟨_, _, ⟨h101, h102⟩, by rw [e1, ← List.append_assoc]; exact rp104⟩, (Fr.tr (Fr.tr Fr.rf k95 (by decide)) k103 (by decide))⟩
      · skip
        refine G_iload_n hX 2 rfl rfl d_Wt_writeCode_34 ?_
        refine G_bipush hX (by decide) d_Wt_writeCode_35 ?_
        refine G_icmp_gt_z hX (tgt := 61) d_Wt_writeCode_37 rfl (by omega) (fun c105 => ?_) (fun c106 => ?_)
        · skip
          refine G_aload_n hX 0 rfl rfl d_Wt_writeCode_61 ?_
          refine F_get hX fg_Wt_26 d_Wt_writeCode_62 29 (by decide) hT rfl ?_
          refine G_iload_n hX 1 rfl rfl d_Wt_writeCode_65 ?_
          refine G_iconst hX d_Wt_writeCode_66 ?_
          refine G_icmp_ne_z hX (tgt := 74) d_Wt_writeCode_67 rfl (by omega) (fun c107 => ?_) (fun c108 => ?_)
          · skip
            refine G_iload_n hX 1 rfl rfl d_Wt_writeCode_74 ?_
            refine G_iconst hX d_Wt_writeCode_75 ?_
            refine G_icmp_ne_z hX (tgt := 83) d_Wt_writeCode_76 rfl (by omega) (fun c109 => ?_) (fun c110 => ?_)
            · skip
              refine G_bipush hX (by decide) d_Wt_writeCode_83 ?_
              refine G_bipush hX (by decide) d_Wt_writeCode_85 ?_
              refine G_iload_n hX 3 rfl rfl d_Wt_writeCode_87 ?_
              refine G_imul_z hX d_Wt_writeCode_88 ?_
              refine G_iadd_z hX d_Wt_writeCode_89 ?_
              refine F_callV hX (st := []) (c_Ro_push E f 36 37 768 g c (19 + (16 * m)) (by decide) (by decide) (by decide) ⟨hR.1, hR.2⟩ (by omega) (by omega)) cm_Ro_push im_Ro_push se_Ro_push rfl ml_Wt_50 d_Wt_writeCode_90 (by decide) hR.1 rfl rfl (Nat.le_of_ble_eq_true rfl) (by decide) ?_
              rintro _ f111 ⟨rfl, ⟨h114, h115⟩, k116⟩
              refine G_cast (st' := []) ?_ rfl rfl rfl rfl
              have rp117 := rep_uz (v := 19 + (16 * m)) hL
              refine G_aload_n hX 0 rfl rfl d_Wt_writeCode_93 ?_
              have h118 : f111 29 = ob 10 [.ref (eA E 30), .ref (eA E 32), .ref (eA E 34), .ref (eA E 36), .ref (eA E 38), .ref (eA E 40), .ref (eA E 41), .int (zI b)] := (k116 29 (by decide)).trans hT
              refine F_get hX fg_Wt_26 d_Wt_writeCode_94 29 (by decide) h118 rfl ?_
              refine G_iload_n hX 2 rfl rfl d_Wt_writeCode_97 ?_
              refine F_callV hX (st := []) (c_Ro_pushNumber E f111 36 37 768 (uz g c (19 + (16 * m))) (c + 1) n (by decide) (by decide) (by decide) ⟨h114, h115⟩ (by omega) (by omega) (by omega)) cm_Ro_pushNumber im_Ro_pushNumber se_Ro_pushNumber rfl ml_Wt_97 d_Wt_writeCode_98 (by decide) h114 rfl rfl (Nat.le_of_ble_eq_true rfl) (by decide) ?_
              rintro _ f119 ⟨rfl, ⟨h122, h123⟩, k124⟩
              refine G_cast (st' := []) ?_ rfl rfl rfl rfl
              have rp125 := rep_nb (v := n) rp117
              have e1 : c1L t n m = [19 + (16 * m)] ++ nbL n := by first | (exfalso; omega) | (unfold c1L; (repeat (first | rw [if_pos (by omega)] | rw [if_neg (by omega)])))
              exact F_vret hX hE d_Wt_writeCode_101 ⟨rfl, ⟨_, _, ⟨h122, h123⟩, by rw [e1, ← List.append_assoc]; exact rp125⟩, (Fr.tr (Fr.tr Fr.rf k116 (by decide)) k124 (by decide))⟩
            · skip
              refine G_iconst hX d_Wt_writeCode_79 ?_
              refine G_goto hX (tgt := 90) d_Wt_writeCode_80 rfl ?_
              refine F_callV hX (st := []) (c_Ro_push E f 36 37 768 g c 1 (by decide) (by decide) (by decide) ⟨hR.1, hR.2⟩ (by omega) (by omega)) cm_Ro_push im_Ro_push se_Ro_push rfl ml_Wt_50 d_Wt_writeCode_90 (by decide) hR.1 rfl rfl (Nat.le_of_ble_eq_true rfl) (by decide) ?_
              rintro _ f126 ⟨rfl, ⟨h129, h130⟩, k131⟩
              refine G_cast (st' := []) ?_ rfl rfl rfl rfl
              have rp132 := rep_uz (v := 1) hL
              refine G_aload_n hX 0 rfl rfl d_Wt_writeCode_93 ?_
              have h133 : f126 29 = ob 10 [.ref (eA E 30), .ref (eA E 32), .ref (eA E 34), .ref (eA E 36), .ref (eA E 38), .ref (eA E 40), .ref (eA E 41), .int (zI b)] := (k131 29 (by decide)).trans hT
              refine F_get hX fg_Wt_26 d_Wt_writeCode_94 29 (by decide) h133 rfl ?_
              refine G_iload_n hX 2 rfl rfl d_Wt_writeCode_97 ?_
              refine F_callV hX (st := []) (c_Ro_pushNumber E f126 36 37 768 (uz g c 1) (c + 1) n (by decide) (by decide) (by decide) ⟨h129, h130⟩ (by omega) (by omega) (by omega)) cm_Ro_pushNumber im_Ro_pushNumber se_Ro_pushNumber rfl ml_Wt_97 d_Wt_writeCode_98 (by decide) h129 rfl rfl (Nat.le_of_ble_eq_true rfl) (by decide) ?_
              rintro _ f134 ⟨rfl, ⟨h137, h138⟩, k139⟩
              refine G_cast (st' := []) ?_ rfl rfl rfl rfl
              have rp140 := rep_nb (v := n) rp132
              have e1 : c1L t n m = [1] ++ nbL n := by first | (exfalso; omega) | (unfold c1L; (repeat (first | rw [if_pos (by omega)] | rw [if_neg (by omega)])))
              exact F_vret hX hE d_Wt_writeCode_101 ⟨rfl, ⟨_, _, ⟨h137, h138⟩, by rw [e1, ← List.append_assoc]; exact rp140⟩, (Fr.tr (Fr.tr Fr.rf k131 (by decide)) k139 (by decide))⟩
          · skip
            refine G_iconst hX d_Wt_writeCode_70 ?_
            refine G_goto hX (tgt := 90) d_Wt_writeCode_71 rfl ?_
            refine F_callV hX (st := []) (c_Ro_push E f 36 37 768 g c 0 (by decide) (by decide) (by decide) ⟨hR.1, hR.2⟩ (by omega) (by omega)) cm_Ro_push im_Ro_push se_Ro_push rfl ml_Wt_50 d_Wt_writeCode_90 (by decide) hR.1 rfl rfl (Nat.le_of_ble_eq_true rfl) (by decide) ?_
            rintro _ f141 ⟨rfl, ⟨h144, h145⟩, k146⟩
            refine G_cast (st' := []) ?_ rfl rfl rfl rfl
            have rp147 := rep_uz (v := 0) hL
            refine G_aload_n hX 0 rfl rfl d_Wt_writeCode_93 ?_
            have h148 : f141 29 = ob 10 [.ref (eA E 30), .ref (eA E 32), .ref (eA E 34), .ref (eA E 36), .ref (eA E 38), .ref (eA E 40), .ref (eA E 41), .int (zI b)] := (k146 29 (by decide)).trans hT
            refine F_get hX fg_Wt_26 d_Wt_writeCode_94 29 (by decide) h148 rfl ?_
            refine G_iload_n hX 2 rfl rfl d_Wt_writeCode_97 ?_
            refine F_callV hX (st := []) (c_Ro_pushNumber E f141 36 37 768 (uz g c 0) (c + 1) n (by decide) (by decide) (by decide) ⟨h144, h145⟩ (by omega) (by omega) (by omega)) cm_Ro_pushNumber im_Ro_pushNumber se_Ro_pushNumber rfl ml_Wt_97 d_Wt_writeCode_98 (by decide) h144 rfl rfl (Nat.le_of_ble_eq_true rfl) (by decide) ?_
            rintro _ f149 ⟨rfl, ⟨h152, h153⟩, k154⟩
            refine G_cast (st' := []) ?_ rfl rfl rfl rfl
            have rp155 := rep_nb (v := n) rp147
            have e1 : c1L t n m = [0] ++ nbL n := by first | (exfalso; omega) | (unfold c1L; (repeat (first | rw [if_pos (by omega)] | rw [if_neg (by omega)])))
            exact F_vret hX hE d_Wt_writeCode_101 ⟨rfl, ⟨_, _, ⟨h152, h153⟩, by rw [e1, ← List.append_assoc]; exact rp155⟩, (Fr.tr (Fr.tr Fr.rf k146 (by decide)) k154 (by decide))⟩
        · skip
          refine G_aload_n hX 0 rfl rfl d_Wt_writeCode_40 ?_
          refine F_get hX fg_Wt_26 d_Wt_writeCode_41 29 (by decide) hT rfl ?_
          refine G_bipush hX (by decide) d_Wt_writeCode_44 ?_
          refine G_bipush hX (by decide) d_Wt_writeCode_46 ?_
          refine G_iload_n hX 3 rfl rfl d_Wt_writeCode_48 ?_
          refine G_imul_z hX d_Wt_writeCode_49 ?_
          refine G_iadd_z hX d_Wt_writeCode_50 ?_
          refine G_iload_n hX 2 rfl rfl d_Wt_writeCode_51 ?_
          refine G_iadd_z hX d_Wt_writeCode_52 ?_
          refine G_iconst hX d_Wt_writeCode_53 ?_
          refine G_isub_z hX d_Wt_writeCode_54 ?_
          refine F_callV hX (st := []) (c_Ro_push E f 36 37 768 g c (((19 + (16 * m)) + n) - 3) (by decide) (by decide) (by decide) ⟨hR.1, hR.2⟩ (by omega) (by omega)) cm_Ro_push im_Ro_push se_Ro_push rfl ml_Wt_50 d_Wt_writeCode_55 (by decide) hR.1 rfl rfl (Nat.le_of_ble_eq_true rfl) (by decide) ?_
          rintro _ f156 ⟨rfl, ⟨h159, h160⟩, k161⟩
          refine G_cast (st' := []) ?_ rfl rfl rfl rfl
          have rp162 := rep_uz (v := ((19 + (16 * m)) + n) - 3) hL
          refine G_goto hX (tgt := 101) d_Wt_writeCode_58 rfl ?_
          have e1 : c1L t n m = [((19 + (16 * m)) + n) - 3] := by first | (exfalso; omega) | (unfold c1L; (repeat (first | rw [if_pos (by omega)] | rw [if_neg (by omega)])))
          exact F_vret hX hE d_Wt_writeCode_101 ⟨rfl, ⟨_, _, ⟨h159, h160⟩, by rw [e1]; exact rp162⟩, (Fr.tr Fr.rf k161 (by decide))⟩
  · skip
    refine G_iload_n hX 2 rfl rfl d_Wt_writeCode_5 ?_
    refine G_bipush hX (by decide) d_Wt_writeCode_6 ?_
    refine G_icmp_gt_z hX (tgt := 24) d_Wt_writeCode_8 rfl (by omega) (fun c163 => ?_) (fun c164 => ?_)
    · skip
      refine G_iload_n hX 1 rfl rfl d_Wt_writeCode_24 ?_
      refine G_iconst hX d_Wt_writeCode_25 ?_
      refine G_icmp_ne_z hX (tgt := 61) d_Wt_writeCode_26 rfl (by omega) (fun c165 => ?_) (fun c166 => ?_)
      · skip
        refine G_aload_n hX 0 rfl rfl d_Wt_writeCode_61 ?_
        refine F_get hX fg_Wt_26 d_Wt_writeCode_62 29 (by decide) hT rfl ?_
        refine G_iload_n hX 1 rfl rfl d_Wt_writeCode_65 ?_
        refine G_iconst hX d_Wt_writeCode_66 ?_
        refine G_icmp_ne_z hX (tgt := 74) d_Wt_writeCode_67 rfl (by omega) (fun c167 => ?_) (fun c168 => ?_)
        · skip
          refine G_iload_n hX 1 rfl rfl d_Wt_writeCode_74 ?_
          refine G_iconst hX d_Wt_writeCode_75 ?_
          refine G_icmp_ne_z hX (tgt := 83) d_Wt_writeCode_76 rfl (by omega) (fun c169 => ?_) (fun c170 => ?_)
          · skip
            refine G_bipush hX (by decide) d_Wt_writeCode_83 ?_
            refine G_bipush hX (by decide) d_Wt_writeCode_85 ?_
            refine G_iload_n hX 3 rfl rfl d_Wt_writeCode_87 ?_
            refine G_imul_z hX d_Wt_writeCode_88 ?_
            refine G_iadd_z hX d_Wt_writeCode_89 ?_
            refine F_callV hX (st := []) (c_Ro_push E f 36 37 768 g c (19 + (16 * m)) (by decide) (by decide) (by decide) ⟨hR.1, hR.2⟩ (by omega) (by omega)) cm_Ro_push im_Ro_push se_Ro_push rfl ml_Wt_50 d_Wt_writeCode_90 (by decide) hR.1 rfl rfl (Nat.le_of_ble_eq_true rfl) (by decide) ?_
            rintro _ f171 ⟨rfl, ⟨h174, h175⟩, k176⟩
            refine G_cast (st' := []) ?_ rfl rfl rfl rfl
            have rp177 := rep_uz (v := 19 + (16 * m)) hL
            refine G_aload_n hX 0 rfl rfl d_Wt_writeCode_93 ?_
            have h178 : f171 29 = ob 10 [.ref (eA E 30), .ref (eA E 32), .ref (eA E 34), .ref (eA E 36), .ref (eA E 38), .ref (eA E 40), .ref (eA E 41), .int (zI b)] := (k176 29 (by decide)).trans hT
            refine F_get hX fg_Wt_26 d_Wt_writeCode_94 29 (by decide) h178 rfl ?_
            refine G_iload_n hX 2 rfl rfl d_Wt_writeCode_97 ?_
            refine F_callV hX (st := []) (c_Ro_pushNumber E f171 36 37 768 (uz g c (19 + (16 * m))) (c + 1) n (by decide) (by decide) (by decide) ⟨h174, h175⟩ (by omega) (by omega) (by omega)) cm_Ro_pushNumber im_Ro_pushNumber se_Ro_pushNumber rfl ml_Wt_97 d_Wt_writeCode_98 (by decide) h174 rfl rfl (Nat.le_of_ble_eq_true rfl) (by decide) ?_
            rintro _ f179 ⟨rfl, ⟨h182, h183⟩, k184⟩
            refine G_cast (st' := []) ?_ rfl rfl rfl rfl
            have rp185 := rep_nb (v := n) rp177
            have e1 : c1L t n m = [19 + (16 * m)] ++ nbL n := by first | (exfalso; omega) | (unfold c1L; (repeat (first | rw [if_pos (by omega)] | rw [if_neg (by omega)])))
            exact F_vret hX hE d_Wt_writeCode_101 ⟨rfl, ⟨_, _, ⟨h182, h183⟩, by rw [e1, ← List.append_assoc]; exact rp185⟩, (Fr.tr (Fr.tr Fr.rf k176 (by decide)) k184 (by decide))⟩
          · skip
            refine G_iconst hX d_Wt_writeCode_79 ?_
            refine G_goto hX (tgt := 90) d_Wt_writeCode_80 rfl ?_
            refine F_callV hX (st := []) (c_Ro_push E f 36 37 768 g c 1 (by decide) (by decide) (by decide) ⟨hR.1, hR.2⟩ (by omega) (by omega)) cm_Ro_push im_Ro_push se_Ro_push rfl ml_Wt_50 d_Wt_writeCode_90 (by decide) hR.1 rfl rfl (Nat.le_of_ble_eq_true rfl) (by decide) ?_
            rintro _ f186 ⟨rfl, ⟨h189, h190⟩, k191⟩
            refine G_cast (st' := []) ?_ rfl rfl rfl rfl
            have rp192 := rep_uz (v := 1) hL
            refine G_aload_n hX 0 rfl rfl d_Wt_writeCode_93 ?_
            have h193 : f186 29 = ob 10 [.ref (eA E 30), .ref (eA E 32), .ref (eA E 34), .ref (eA E 36), .ref (eA E 38), .ref (eA E 40), .ref (eA E 41), .int (zI b)] := (k191 29 (by decide)).trans hT
            refine F_get hX fg_Wt_26 d_Wt_writeCode_94 29 (by decide) h193 rfl ?_
            refine G_iload_n hX 2 rfl rfl d_Wt_writeCode_97 ?_
            refine F_callV hX (st := []) (c_Ro_pushNumber E f186 36 37 768 (uz g c 1) (c + 1) n (by decide) (by decide) (by decide) ⟨h189, h190⟩ (by omega) (by omega) (by omega)) cm_Ro_pushNumber im_Ro_pushNumber se_Ro_pushNumber rfl ml_Wt_97 d_Wt_writeCode_98 (by decide) h189 rfl rfl (Nat.le_of_ble_eq_true rfl) (by decide) ?_
            rintro _ f194 ⟨rfl, ⟨h197, h198⟩, k199⟩
            refine G_cast (st' := []) ?_ rfl rfl rfl rfl
            have rp200 := rep_nb (v := n) rp192
            have e1 : c1L t n m = [1] ++ nbL n := by first | (exfalso; omega) | (unfold c1L; (repeat (first | rw [if_pos (by omega)] | rw [if_neg (by omega)])))
            exact F_vret hX hE d_Wt_writeCode_101 ⟨rfl, ⟨_, _, ⟨h197, h198⟩, by rw [e1, ← List.append_assoc]; exact rp200⟩, (Fr.tr (Fr.tr Fr.rf k191 (by decide)) k199 (by decide))⟩
        · skip
          refine G_iconst hX d_Wt_writeCode_70 ?_
          refine G_goto hX (tgt := 90) d_Wt_writeCode_71 rfl ?_
          refine F_callV hX (st := []) (c_Ro_push E f 36 37 768 g c 0 (by decide) (by decide) (by decide) ⟨hR.1, hR.2⟩ (by omega) (by omega)) cm_Ro_push im_Ro_push se_Ro_push rfl ml_Wt_50 d_Wt_writeCode_90 (by decide) hR.1 rfl rfl (Nat.le_of_ble_eq_true rfl) (by decide) ?_
          rintro _ f201 ⟨rfl, ⟨h204, h205⟩, k206⟩
          refine G_cast (st' := []) ?_ rfl rfl rfl rfl
          have rp207 := rep_uz (v := 0) hL
          refine G_aload_n hX 0 rfl rfl d_Wt_writeCode_93 ?_
          have h208 : f201 29 = ob 10 [.ref (eA E 30), .ref (eA E 32), .ref (eA E 34), .ref (eA E 36), .ref (eA E 38), .ref (eA E 40), .ref (eA E 41), .int (zI b)] := (k206 29 (by decide)).trans hT
          refine F_get hX fg_Wt_26 d_Wt_writeCode_94 29 (by decide) h208 rfl ?_
          refine G_iload_n hX 2 rfl rfl d_Wt_writeCode_97 ?_
          refine F_callV hX (st := []) (c_Ro_pushNumber E f201 36 37 768 (uz g c 0) (c + 1) n (by decide) (by decide) (by decide) ⟨h204, h205⟩ (by omega) (by omega) (by omega)) cm_Ro_pushNumber im_Ro_pushNumber se_Ro_pushNumber rfl ml_Wt_97 d_Wt_writeCode_98 (by decide) h204 rfl rfl (Nat.le_of_ble_eq_true rfl) (by decide) ?_
          rintro _ f209 ⟨rfl, ⟨h212, h213⟩, k214⟩
          refine G_cast (st' := []) ?_ rfl rfl rfl rfl
          have rp215 := rep_nb (v := n) rp207
          have e1 : c1L t n m = [0] ++ nbL n := by first | (exfalso; omega) | (unfold c1L; (repeat (first | rw [if_pos (by omega)] | rw [if_neg (by omega)])))
          exact F_vret hX hE d_Wt_writeCode_101 ⟨rfl, ⟨_, _, ⟨h212, h213⟩, by rw [e1, ← List.append_assoc]; exact rp215⟩, (Fr.tr (Fr.tr Fr.rf k206 (by decide)) k214 (by decide))⟩
      · skip
        refine G_iload_n hX 2 rfl rfl d_Wt_writeCode_29 ?_
        refine G_iconst hX d_Wt_writeCode_30 ?_
        refine G_icmp_lt_z hX (tgt := 61) d_Wt_writeCode_31 rfl (by omega) (fun c216 => ?_) (fun c217 => ?_)
        · skip
          refine G_aload_n hX 0 rfl rfl d_Wt_writeCode_61 ?_
          refine F_get hX fg_Wt_26 d_Wt_writeCode_62 29 (by decide) hT rfl ?_
          refine G_iload_n hX 1 rfl rfl d_Wt_writeCode_65 ?_
          refine G_iconst hX d_Wt_writeCode_66 ?_
          refine G_icmp_ne_z hX (tgt := 74) d_Wt_writeCode_67 rfl (by omega) (fun c218 => ?_) (fun c219 => ?_)
          · skip
            refine G_iload_n hX 1 rfl rfl d_Wt_writeCode_74 ?_
            refine G_iconst hX d_Wt_writeCode_75 ?_
            refine G_icmp_ne_z hX (tgt := 83) d_Wt_writeCode_76 rfl (by omega) (fun c220 => ?_) (fun c221 => ?_)
            · skip
              refine G_bipush hX (by decide) d_Wt_writeCode_83 ?_
              refine G_bipush hX (by decide) d_Wt_writeCode_85 ?_
              refine G_iload_n hX 3 rfl rfl d_Wt_writeCode_87 ?_
              refine G_imul_z hX d_Wt_writeCode_88 ?_
              refine G_iadd_z hX d_Wt_writeCode_89 ?_
              refine F_callV hX (st := []) (c_Ro_push E f 36 37 768 g c (19 + (16 * m)) (by decide) (by decide) (by decide) ⟨hR.1, hR.2⟩ (by omega) (by omega)) cm_Ro_push im_Ro_push se_Ro_push rfl ml_Wt_50 d_Wt_writeCode_90 (by decide) hR.1 rfl rfl (Nat.le_of_ble_eq_true rfl) (by decide) ?_
              rintro _ f222 ⟨rfl, ⟨h225, h226⟩, k227⟩
              refine G_cast (st' := []) ?_ rfl rfl rfl rfl
              have rp228 := rep_uz (v := 19 + (16 * m)) hL
              refine G_aload_n hX 0 rfl rfl d_Wt_writeCode_93 ?_
              have h229 : f222 29 = ob 10 [.ref (eA E 30), .ref (eA E 32), .ref (eA E 34), .ref (eA E 36), .ref (eA E 38), .ref (eA E 40), .ref (eA E 41), .int (zI b)] := (k227 29 (by decide)).trans hT
              refine F_get hX fg_Wt_26 d_Wt_writeCode_94 29 (by decide) h229 rfl ?_
              refine G_iload_n hX 2 rfl rfl d_Wt_writeCode_97 ?_
              refine F_callV hX (st := []) (c_Ro_pushNumber E f222 36 37 768 (uz g c (19 + (16 * m))) (c + 1) n (by decide) (by decide) (by decide) ⟨h225, h226⟩ (by omega) (by omega) (by omega)) cm_Ro_pushNumber im_Ro_pushNumber se_Ro_pushNumber rfl ml_Wt_97 d_Wt_writeCode_98 (by decide) h225 rfl rfl (Nat.le_of_ble_eq_true rfl) (by decide) ?_
              rintro _ f230 ⟨rfl, ⟨h233, h234⟩, k235⟩
              refine G_cast (st' := []) ?_ rfl rfl rfl rfl
              have rp236 := rep_nb (v := n) rp228
              have e1 : c1L t n m = [19 + (16 * m)] ++ nbL n := by first | (exfalso; omega) | (unfold c1L; (repeat (first | rw [if_pos (by omega)] | rw [if_neg (by omega)])))
              exact F_vret hX hE d_Wt_writeCode_101 ⟨rfl, ⟨_, _, ⟨h233, h234⟩, by rw [e1, ← List.append_assoc]; exact rp236⟩, (Fr.tr (Fr.tr Fr.rf k227 (by decide)) k235 (by decide))⟩
            · skip
              refine G_iconst hX d_Wt_writeCode_79 ?_
              refine G_goto hX (tgt := 90) d_Wt_writeCode_80 rfl ?_
              refine F_callV hX (st := []) (c_Ro_push E f 36 37 768 g c 1 (by decide) (by decide) (by decide) ⟨hR.1, hR.2⟩ (by omega) (by omega)) cm_Ro_push im_Ro_push se_Ro_push rfl ml_Wt_50 d_Wt_writeCode_90 (by decide) hR.1 rfl rfl (Nat.le_of_ble_eq_true rfl) (by decide) ?_
              rintro _ f237 ⟨rfl, ⟨h240, h241⟩, k242⟩
              refine G_cast (st' := []) ?_ rfl rfl rfl rfl
              have rp243 := rep_uz (v := 1) hL
              refine G_aload_n hX 0 rfl rfl d_Wt_writeCode_93 ?_
              have h244 : f237 29 = ob 10 [.ref (eA E 30), .ref (eA E 32), .ref (eA E 34), .ref (eA E 36), .ref (eA E 38), .ref (eA E 40), .ref (eA E 41), .int (zI b)] := (k242 29 (by decide)).trans hT
              refine F_get hX fg_Wt_26 d_Wt_writeCode_94 29 (by decide) h244 rfl ?_
              refine G_iload_n hX 2 rfl rfl d_Wt_writeCode_97 ?_
              refine F_callV hX (st := []) (c_Ro_pushNumber E f237 36 37 768 (uz g c 1) (c + 1) n (by decide) (by decide) (by decide) ⟨h240, h241⟩ (by omega) (by omega) (by omega)) cm_Ro_pushNumber im_Ro_pushNumber se_Ro_pushNumber rfl ml_Wt_97 d_Wt_writeCode_98 (by decide) h240 rfl rfl (Nat.le_of_ble_eq_true rfl) (by decide) ?_
              rintro _ f245 ⟨rfl, ⟨h248, h249⟩, k250⟩
              refine G_cast (st' := []) ?_ rfl rfl rfl rfl
              have rp251 := rep_nb (v := n) rp243
              have e1 : c1L t n m = [1] ++ nbL n := by first | (exfalso; omega) | (unfold c1L; (repeat (first | rw [if_pos (by omega)] | rw [if_neg (by omega)])))
              exact F_vret hX hE d_Wt_writeCode_101 ⟨rfl, ⟨_, _, ⟨h248, h249⟩, by rw [e1, ← List.append_assoc]; exact rp251⟩, (Fr.tr (Fr.tr Fr.rf k242 (by decide)) k250 (by decide))⟩
          · skip
            refine G_iconst hX d_Wt_writeCode_70 ?_
            refine G_goto hX (tgt := 90) d_Wt_writeCode_71 rfl ?_
            refine F_callV hX (st := []) (c_Ro_push E f 36 37 768 g c 0 (by decide) (by decide) (by decide) ⟨hR.1, hR.2⟩ (by omega) (by omega)) cm_Ro_push im_Ro_push se_Ro_push rfl ml_Wt_50 d_Wt_writeCode_90 (by decide) hR.1 rfl rfl (Nat.le_of_ble_eq_true rfl) (by decide) ?_
            rintro _ f252 ⟨rfl, ⟨h255, h256⟩, k257⟩
            refine G_cast (st' := []) ?_ rfl rfl rfl rfl
            have rp258 := rep_uz (v := 0) hL
            refine G_aload_n hX 0 rfl rfl d_Wt_writeCode_93 ?_
            have h259 : f252 29 = ob 10 [.ref (eA E 30), .ref (eA E 32), .ref (eA E 34), .ref (eA E 36), .ref (eA E 38), .ref (eA E 40), .ref (eA E 41), .int (zI b)] := (k257 29 (by decide)).trans hT
            refine F_get hX fg_Wt_26 d_Wt_writeCode_94 29 (by decide) h259 rfl ?_
            refine G_iload_n hX 2 rfl rfl d_Wt_writeCode_97 ?_
            refine F_callV hX (st := []) (c_Ro_pushNumber E f252 36 37 768 (uz g c 0) (c + 1) n (by decide) (by decide) (by decide) ⟨h255, h256⟩ (by omega) (by omega) (by omega)) cm_Ro_pushNumber im_Ro_pushNumber se_Ro_pushNumber rfl ml_Wt_97 d_Wt_writeCode_98 (by decide) h255 rfl rfl (Nat.le_of_ble_eq_true rfl) (by decide) ?_
            rintro _ f260 ⟨rfl, ⟨h263, h264⟩, k265⟩
            refine G_cast (st' := []) ?_ rfl rfl rfl rfl
            have rp266 := rep_nb (v := n) rp258
            have e1 : c1L t n m = [0] ++ nbL n := by first | (exfalso; omega) | (unfold c1L; (repeat (first | rw [if_pos (by omega)] | rw [if_neg (by omega)])))
            exact F_vret hX hE d_Wt_writeCode_101 ⟨rfl, ⟨_, _, ⟨h263, h264⟩, by rw [e1, ← List.append_assoc]; exact rp266⟩, (Fr.tr (Fr.tr Fr.rf k257 (by decide)) k265 (by decide))⟩
        · skip
          refine G_iload_n hX 2 rfl rfl d_Wt_writeCode_34 ?_
          refine G_bipush hX (by decide) d_Wt_writeCode_35 ?_
          refine G_icmp_gt_z hX (tgt := 61) d_Wt_writeCode_37 rfl (by omega) (fun c267 => ?_) (fun c268 => ?_)
          · skip
            refine G_aload_n hX 0 rfl rfl d_Wt_writeCode_61 ?_
            refine F_get hX fg_Wt_26 d_Wt_writeCode_62 29 (by decide) hT rfl ?_
            refine G_iload_n hX 1 rfl rfl d_Wt_writeCode_65 ?_
            refine G_iconst hX d_Wt_writeCode_66 ?_
            refine G_icmp_ne_z hX (tgt := 74) d_Wt_writeCode_67 rfl (by omega) (fun c269 => ?_) (fun c270 => ?_)
            · skip
              refine G_iload_n hX 1 rfl rfl d_Wt_writeCode_74 ?_
              refine G_iconst hX d_Wt_writeCode_75 ?_
              refine G_icmp_ne_z hX (tgt := 83) d_Wt_writeCode_76 rfl (by omega) (fun c271 => ?_) (fun c272 => ?_)
              · skip
                refine G_bipush hX (by decide) d_Wt_writeCode_83 ?_
                refine G_bipush hX (by decide) d_Wt_writeCode_85 ?_
                refine G_iload_n hX 3 rfl rfl d_Wt_writeCode_87 ?_
                refine G_imul_z hX d_Wt_writeCode_88 ?_
                refine G_iadd_z hX d_Wt_writeCode_89 ?_
                refine F_callV hX (st := []) (c_Ro_push E f 36 37 768 g c (19 + (16 * m)) (by decide) (by decide) (by decide) ⟨hR.1, hR.2⟩ (by omega) (by omega)) cm_Ro_push im_Ro_push se_Ro_push rfl ml_Wt_50 d_Wt_writeCode_90 (by decide) hR.1 rfl rfl (Nat.le_of_ble_eq_true rfl) (by decide) ?_
                rintro _ f273 ⟨rfl, ⟨h276, h277⟩, k278⟩
                refine G_cast (st' := []) ?_ rfl rfl rfl rfl
                have rp279 := rep_uz (v := 19 + (16 * m)) hL
                refine G_aload_n hX 0 rfl rfl d_Wt_writeCode_93 ?_
                have h280 : f273 29 = ob 10 [.ref (eA E 30), .ref (eA E 32), .ref (eA E 34), .ref (eA E 36), .ref (eA E 38), .ref (eA E 40), .ref (eA E 41), .int (zI b)] := (k278 29 (by decide)).trans hT
                refine F_get hX fg_Wt_26 d_Wt_writeCode_94 29 (by decide) h280 rfl ?_
                refine G_iload_n hX 2 rfl rfl d_Wt_writeCode_97 ?_
                refine F_callV hX (st := []) (c_Ro_pushNumber E f273 36 37 768 (uz g c (19 + (16 * m))) (c + 1) n (by decide) (by decide) (by decide) ⟨h276, h277⟩ (by omega) (by omega) (by omega)) cm_Ro_pushNumber im_Ro_pushNumber se_Ro_pushNumber rfl ml_Wt_97 d_Wt_writeCode_98 (by decide) h276 rfl rfl (Nat.le_of_ble_eq_true rfl) (by decide) ?_
                rintro _ f281 ⟨rfl, ⟨h284, h285⟩, k286⟩
                refine G_cast (st' := []) ?_ rfl rfl rfl rfl
                have rp287 := rep_nb (v := n) rp279
                have e1 : c1L t n m = [19 + (16 * m)] ++ nbL n := by first | (exfalso; omega) | (unfold c1L; (repeat (first | rw [if_pos (by omega)] | rw [if_neg (by omega)])))
                exact F_vret hX hE d_Wt_writeCode_101 ⟨rfl, ⟨_, _, ⟨h284, h285⟩, by rw [e1, ← List.append_assoc]; exact rp287⟩, (Fr.tr (Fr.tr Fr.rf k278 (by decide)) k286 (by decide))⟩
              · skip
                refine G_iconst hX d_Wt_writeCode_79 ?_
                refine G_goto hX (tgt := 90) d_Wt_writeCode_80 rfl ?_
                refine F_callV hX (st := []) (c_Ro_push E f 36 37 768 g c 1 (by decide) (by decide) (by decide) ⟨hR.1, hR.2⟩ (by omega) (by omega)) cm_Ro_push im_Ro_push se_Ro_push rfl ml_Wt_50 d_Wt_writeCode_90 (by decide) hR.1 rfl rfl (Nat.le_of_ble_eq_true rfl) (by decide) ?_
                rintro _ f288 ⟨rfl, ⟨h291, h292⟩, k293⟩
                refine G_cast (st' := []) ?_ rfl rfl rfl rfl
                have rp294 := rep_uz (v := 1) hL
                refine G_aload_n hX 0 rfl rfl d_Wt_writeCode_93 ?_
                have h295 : f288 29 = ob 10 [.ref (eA E 30), .ref (eA E 32), .ref (eA E 34), .ref (eA E 36), .ref (eA E 38), .ref (eA E 40), .ref (eA E 41), .int (zI b)] := (k293 29 (by decide)).trans hT
                refine F_get hX fg_Wt_26 d_Wt_writeCode_94 29 (by decide) h295 rfl ?_
                refine G_iload_n hX 2 rfl rfl d_Wt_writeCode_97 ?_
                refine F_callV hX (st := []) (c_Ro_pushNumber E f288 36 37 768 (uz g c 1) (c + 1) n (by decide) (by decide) (by decide) ⟨h291, h292⟩ (by omega) (by omega) (by omega)) cm_Ro_pushNumber im_Ro_pushNumber se_Ro_pushNumber rfl ml_Wt_97 d_Wt_writeCode_98 (by decide) h291 rfl rfl (Nat.le_of_ble_eq_true rfl) (by decide) ?_
                rintro _ f296 ⟨rfl, ⟨h299, h300⟩, k301⟩
                refine G_cast (st' := []) ?_ rfl rfl rfl rfl
                have rp302 := rep_nb (v := n) rp294
                have e1 : c1L t n m = [1] ++ nbL n := by first | (exfalso; omega) | (unfold c1L; (repeat (first | rw [if_pos (by omega)] | rw [if_neg (by omega)])))
                exact F_vret hX hE d_Wt_writeCode_101 ⟨rfl, ⟨_, _, ⟨h299, h300⟩, by rw [e1, ← List.append_assoc]; exact rp302⟩, (Fr.tr (Fr.tr Fr.rf k293 (by decide)) k301 (by decide))⟩
            · skip
              refine G_iconst hX d_Wt_writeCode_70 ?_
              refine G_goto hX (tgt := 90) d_Wt_writeCode_71 rfl ?_
              refine F_callV hX (st := []) (c_Ro_push E f 36 37 768 g c 0 (by decide) (by decide) (by decide) ⟨hR.1, hR.2⟩ (by omega) (by omega)) cm_Ro_push im_Ro_push se_Ro_push rfl ml_Wt_50 d_Wt_writeCode_90 (by decide) hR.1 rfl rfl (Nat.le_of_ble_eq_true rfl) (by decide) ?_
              rintro _ f303 ⟨rfl, ⟨h306, h307⟩, k308⟩
              refine G_cast (st' := []) ?_ rfl rfl rfl rfl
              have rp309 := rep_uz (v := 0) hL
              refine G_aload_n hX 0 rfl rfl d_Wt_writeCode_93 ?_
              have h310 : f303 29 = ob 10 [.ref (eA E 30), .ref (eA E 32), .ref (eA E 34), .ref (eA E 36), .ref (eA E 38), .ref (eA E 40), .ref (eA E 41), .int (zI b)] := (k308 29 (by decide)).trans hT
              refine F_get hX fg_Wt_26 d_Wt_writeCode_94 29 (by decide) h310 rfl ?_
              refine G_iload_n hX 2 rfl rfl d_Wt_writeCode_97 ?_
              refine F_callV hX (st := []) (c_Ro_pushNumber E f303 36 37 768 (uz g c 0) (c + 1) n (by decide) (by decide) (by decide) ⟨h306, h307⟩ (by omega) (by omega) (by omega)) cm_Ro_pushNumber im_Ro_pushNumber se_Ro_pushNumber rfl ml_Wt_97 d_Wt_writeCode_98 (by decide) h306 rfl rfl (Nat.le_of_ble_eq_true rfl) (by decide) ?_
              rintro _ f311 ⟨rfl, ⟨h314, h315⟩, k316⟩
              refine G_cast (st' := []) ?_ rfl rfl rfl rfl
              have rp317 := rep_nb (v := n) rp309
              have e1 : c1L t n m = [0] ++ nbL n := by first | (exfalso; omega) | (unfold c1L; (repeat (first | rw [if_pos (by omega)] | rw [if_neg (by omega)])))
              exact F_vret hX hE d_Wt_writeCode_101 ⟨rfl, ⟨_, _, ⟨h314, h315⟩, by rw [e1, ← List.append_assoc]; exact rp317⟩, (Fr.tr (Fr.tr Fr.rf k308 (by decide)) k316 (by decide))⟩
          · skip
            refine G_aload_n hX 0 rfl rfl d_Wt_writeCode_40 ?_
            refine F_get hX fg_Wt_26 d_Wt_writeCode_41 29 (by decide) hT rfl ?_
            refine G_bipush hX (by decide) d_Wt_writeCode_44 ?_
            refine G_bipush hX (by decide) d_Wt_writeCode_46 ?_
            refine G_iload_n hX 3 rfl rfl d_Wt_writeCode_48 ?_
            refine G_imul_z hX d_Wt_writeCode_49 ?_
            refine G_iadd_z hX d_Wt_writeCode_50 ?_
            refine G_iload_n hX 2 rfl rfl d_Wt_writeCode_51 ?_
            refine G_iadd_z hX d_Wt_writeCode_52 ?_
            refine G_iconst hX d_Wt_writeCode_53 ?_
            refine G_isub_z hX d_Wt_writeCode_54 ?_
            refine F_callV hX (st := []) (c_Ro_push E f 36 37 768 g c (((19 + (16 * m)) + n) - 3) (by decide) (by decide) (by decide) ⟨hR.1, hR.2⟩ (by omega) (by omega)) cm_Ro_push im_Ro_push se_Ro_push rfl ml_Wt_50 d_Wt_writeCode_55 (by decide) hR.1 rfl rfl (Nat.le_of_ble_eq_true rfl) (by decide) ?_
            rintro _ f318 ⟨rfl, ⟨h321, h322⟩, k323⟩
            refine G_cast (st' := []) ?_ rfl rfl rfl rfl
            have rp324 := rep_uz (v := ((19 + (16 * m)) + n) - 3) hL
            refine G_goto hX (tgt := 101) d_Wt_writeCode_58 rfl ?_
            have e1 : c1L t n m = [((19 + (16 * m)) + n) - 3] := by first | (exfalso; omega) | (unfold c1L; (repeat (first | rw [if_pos (by omega)] | rw [if_neg (by omega)])))
            exact F_vret hX hE d_Wt_writeCode_101 ⟨rfl, ⟨_, _, ⟨h321, h322⟩, by rw [e1]; exact rp324⟩, (Fr.tr Fr.rf k323 (by decide))⟩
    · skip
      refine G_aload_n hX 0 rfl rfl d_Wt_writeCode_11 ?_
      refine F_get hX fg_Wt_26 d_Wt_writeCode_12 29 (by decide) hT rfl ?_
      refine G_iconst hX d_Wt_writeCode_15 ?_
      refine G_iload_n hX 2 rfl rfl d_Wt_writeCode_16 ?_
      refine G_iadd_z hX d_Wt_writeCode_17 ?_
      refine F_callV hX (st := []) (c_Ro_push E f 36 37 768 g c (1 + n) (by decide) (by decide) (by decide) ⟨hR.1, hR.2⟩ (by omega) (by omega)) cm_Ro_push im_Ro_push se_Ro_push rfl ml_Wt_50 d_Wt_writeCode_18 (by decide) hR.1 rfl rfl (Nat.le_of_ble_eq_true rfl) (by decide) ?_
      rintro _ f325 ⟨rfl, ⟨h328, h329⟩, k330⟩
      refine G_cast (st' := []) ?_ rfl rfl rfl rfl
      have rp331 := rep_uz (v := 1 + n) hL
      refine G_goto hX (tgt := 101) d_Wt_writeCode_21 rfl ?_
      have e1 : c1L t n m = [1 + n] := by first | (exfalso; omega) | (unfold c1L; (repeat (first | rw [if_pos (by omega)] | rw [if_neg (by omega)])))
      exact F_vret hX hE d_Wt_writeCode_101 ⟨rfl, ⟨_, _, ⟨h328, h329⟩, by rw [e1]; exact rp331⟩, (Fr.tr Fr.rf k330 (by decide))⟩
theorem c_Wt_writeCodes (E : EV) (f : Nat → va_E) (P : PS) (md w s : Int) (md0 g : Int → Int) (c a b x cn : Int) (hT : isWt E f b) (hP : isPl E f P md w s) (hB : plB P) (hmo : f 40 = iz E 300 md0) (hR : isR E f 36 37 768 g c) (hw : wnOK P a b x cn) (hmd : ∀ i, a ≤ i → i < b → pT P i = 3 → 0 ≤ md0 i ∧ md0 i ≤ 8) : CF yn_Wt_writeCodes cd_Wt_writeCodes 5 none 3 E [.ref (eA E 29), .ref (eA E 22), .int (zI a)] f (fun r f' => r = none ∧ (∃ g' c', isR E f' 36 37 768 g' c' ∧ rep g' c' (cdL P md0 b (b - a).toNat a) ∧ c' ≤ 3 * (b - a)) ∧ Fr [36, 37] f f') := by
  refine CF.of (by decide +kernel) (Nat.le_of_ble_eq_true rfl) fun X hX hE => ?_
  have hX : Ok E X "DeltaFerry$Writer" "writeCodes" cd_Wt_writeCodes 5 none (rl 3) := hX
  refine G_cast (lv' := [(0, .ref (eA E 29)), (1, .ref (eA E 22)), (2, .int (zI a))]) ?_ rfl rfl rfl rfl
  obtain ⟨hw1, hw2, hw3⟩ := id hw
  have hbn := wnOK_gi hw hw1.2.1 (Int.le_refl b)
  have hpb : psI P b ≤ x + 256 := wnOK_le hw
  refine G_aload_n hX 0 rfl rfl d_Wt_writeCodes_0 ?_
  refine F_get hX fg_Wt_26 d_Wt_writeCodes_1 29 (by decide) hT rfl ?_
  refine G_iconst hX d_Wt_writeCodes_4 ?_
  refine F_put hX fg_Wt_47 fp_Ro_1 d_Wt_writeCodes_5 36 (fs' := [.ref (eA E 37), .int (zI 0)]) (by decide) hR.1 rfl rfl (Nat.le_of_ble_eq_true rfl) rfl (fun f1 h2 k3 => ?_)
  refine G_iload_n hX 2 rfl rfl d_Wt_writeCodes_8 ?_
  refine G_istore_n hX (lv' := [(3, .int (zI a)), (0, .ref (eA E 29)), (1, .ref (eA E 22)), (2, .int (zI a))]) rfl (by decide) rfl d_Wt_writeCodes_9 ?_
  have loop4 : ∀ (q : Nat) (i : Int) (L : List Int) (g1 : Int → Int) (c1 : Int) (kk : Nat) (f5 : Nat → va_E), (b - i).toNat < q → (a ≤ i ∧ i ≤ b) → (rep g1 c1 L) → (0 ≤ c1 ∧ c1 ≤ 3 * (i - a)) → (b - i ≤ kk) → (cdL P md0 b (b - a).toNat a = L ++ cdL P md0 b kk i) → f5 36 = ob 6 [.ref (eA E 37), .int (zI c1)] → f5 37 = iz E 768 g1 → Fr [36, 37] f1 f5 → G E X 0 0 10 [(0, .ref (eA E 29)), (1, .ref (eA E 22)), (3, .int (zI i))] [] (wl E f5) := by
    intro q
    induction q with
    | zero => intro i L g1 c1 kk f5 hms7; exact absurd hms7 (Nat.not_lt_zero _)
    | succ q ih8 =>
      intro i L g1 c1 kk f5 hms7 hi hrp hle hkk hs h9 h10 k6
      refine G_iload_n hX 2 rfl rfl d_Wt_writeCodes_10 ?_
      refine G_aload_n hX 0 rfl rfl d_Wt_writeCodes_11 ?_
      have h11 : f5 29 = ob 10 [.ref (eA E 30), .ref (eA E 32), .ref (eA E 34), .ref (eA E 36), .ref (eA E 38), .ref (eA E 40), .ref (eA E 41), .int (zI b)] := (k6 29 (by decide)).trans ((k3 29 (by decide)).trans hT)
      refine F_get hX fg_Wt_43 d_Wt_writeCodes_12 29 (by decide) h11 rfl ?_
      refine G_icmp_ge_z hX (tgt := 88) d_Wt_writeCodes_15 rfl (by omega) (fun c12 => ?_) (fun c13 => ?_)
      · skip
        have ei : i = b := by omega
        rw [cdL_e (b := b) (i := i) (by omega), List.append_nil] at hs
        exact F_vret hX hE d_Wt_writeCodes_88 ⟨rfl, ⟨_, _, ⟨h9, h10⟩, by rw [hs]; exact hrp, by rw [← ei]; exact hle.2⟩, (Fr.tr (Fr.tr Fr.rf k3 (by decide)) k6 (by decide))⟩
      · skip
        have hwi := hw3 i (by omega) (by omega)
        have hbi := hB i
        refine G_iload_n hX 2 rfl rfl d_Wt_writeCodes_18 ?_
        refine G_iconst hX d_Wt_writeCodes_19 ?_
        refine G_iadd_z hX d_Wt_writeCodes_20 ?_
        refine G_aload_n hX 0 rfl rfl d_Wt_writeCodes_21 ?_
        refine F_get hX fg_Wt_43 d_Wt_writeCodes_22 29 (by decide) h11 rfl ?_
        refine G_icmp_ge_z hX (tgt := 37) d_Wt_writeCodes_25 rfl (by omega) (fun c14 => ?_) (fun c15 => ?_)
        · skip
          refine G_iconst hX d_Wt_writeCodes_37 ?_
          refine G_istore hX (lv' := [(4, .int (zI (-1))), (0, .ref (eA E 29)), (1, .ref (eA E 22)), (3, .int (zI i))]) (by decide) rfl d_Wt_writeCodes_38 ?_
          refine G_iload hX 0 rfl d_Wt_writeCodes_40 ?_
          refine G_if_lt_z hX (tgt := 60) d_Wt_writeCodes_42 rfl (by omega) (fun c16 => ?_) (fun c17 => by exfalso; omega)
          refine G_aload_n hX 1 rfl rfl d_Wt_writeCodes_60 ?_
          refine G_aload_n hX 2 rfl rfl d_Wt_writeCodes_61 ?_
          have h18 : f5 22 = ob 4 [.ref (eA E 23), .ref (eA E 24), .ref (eA E 25), .ref (eA E 26), .int (zI md), .int (zI (pC P)), .int (zI w), .int (zI s)] := (k6 22 (by decide)).trans ((k3 22 (by decide)).trans hP.1)
          refine F_get hX fg_Wt_108 d_Wt_writeCodes_62 22 (by decide) h18 rfl ?_
          refine G_iload_n hX 3 rfl rfl d_Wt_writeCodes_65 ?_
          have h19 : f5 23 = iz E 300 (pT P) := (k6 23 (by decide)).trans ((k3 23 (by decide)).trans hP.2.1)
          refine F_iald hX d_Wt_writeCodes_66 23 (by decide) h19 (by omega) ?_
          refine G_aload_n hX 2 rfl rfl d_Wt_writeCodes_67 ?_
          refine F_get hX fg_Wt_111 d_Wt_writeCodes_68 22 (by decide) h18 rfl ?_
          refine G_iload_n hX 3 rfl rfl d_Wt_writeCodes_71 ?_
          have h20 : f5 24 = iz E 300 (pS P) := (k6 24 (by decide)).trans ((k3 24 (by decide)).trans hP.2.2.1)
          refine F_iald hX d_Wt_writeCodes_72 24 (by decide) h20 (by omega) ?_
          refine G_aload_n hX 1 rfl rfl d_Wt_writeCodes_73 ?_
          refine F_get hX fg_Wt_32 d_Wt_writeCodes_74 29 (by decide) h11 rfl ?_
          refine G_iload_n hX 3 rfl rfl d_Wt_writeCodes_77 ?_
          have h21 : f5 40 = iz E 300 md0 := (k6 40 (by decide)).trans ((k3 40 (by decide)).trans hmo)
          refine F_iald hX d_Wt_writeCodes_78 40 (by decide) h21 (by omega) ?_
          refine F_callV hX (st := []) (c_Wt_writeCode E f5 b g1 c1 L ((pT P) i) ((pS P) i) (md0 i) h11 ⟨h9, h10⟩ hrp (by omega)) cm_Wt_writeCode im_Wt_writeCode se_Wt_writeCode rfl ml_Wt_128 d_Wt_writeCodes_79 (by decide) h11 rfl rfl (Nat.le_of_ble_eq_true rfl) (by decide) ?_
          rintro _ f22 ⟨rfl, ⟨g25, n26, ⟨h27, h28⟩, rp29⟩, k30⟩
          refine G_cast (st' := []) ?_ rfl rfl rfl rfl
          refine G_iinc_z hX (lv' := [(3, .int (zI (i + 1))), (4, .int (zI (-1))), (0, .ref (eA E 29)), (1, .ref (eA E 22))]) 3 rfl (by decide) rfl d_Wt_writeCodes_82 ?_
          refine G_goto hX (tgt := 10) d_Wt_writeCodes_85 rfl ?_
          have hln := c1L_len (t := pT P i) (n := pS P i) (m := md0 i) (by omega)
          have hl1 := rp29.1
          rw [List.length_append] at hl1
          have hl2 := hrp.1
          refine G_loc (lv' := [(0, .ref (eA E 29)), (1, .ref (eA E 22)), (3, .int (zI (i + 1)))]) [2, 3, 0] rfl ?_
          exact ih8 (i + 1) (L ++ c1L ((pT P) i) ((pS P) i) (md0 i)) g25 n26 (kk - 1) f22 (by omega) (by omega) rp29 (by omega) (by omega) (by rw [hs, cdL_1 (by omega) hkk (by omega), List.append_assoc]) h27 h28 (Fr.tr (Fr.tr Fr.rf k6 (by decide)) k30 (by decide))
        · skip
          have hc2 := c2F_b (P := P) (md := md0) (i := i) (by omega) (hmd i (by omega) (by omega)) (hmd (i + 1) (by omega) (by omega))
          refine G_aload_n hX 0 rfl rfl d_Wt_writeCodes_28 ?_
          refine G_aload_n hX 1 rfl rfl d_Wt_writeCodes_29 ?_
          refine G_iload_n hX 2 rfl rfl d_Wt_writeCodes_30 ?_
          have h31 : f5 22 = ob 4 [.ref (eA E 23), .ref (eA E 24), .ref (eA E 25), .ref (eA E 26), .int (zI md), .int (zI (pC P)), .int (zI w), .int (zI s)] := (k6 22 (by decide)).trans ((k3 22 (by decide)).trans hP.1)
          have h32 : f5 23 = iz E 300 (pT P) := (k6 23 (by decide)).trans ((k3 23 (by decide)).trans hP.2.1)
          have h33 : f5 24 = iz E 300 (pS P) := (k6 24 (by decide)).trans ((k3 24 (by decide)).trans hP.2.2.1)
          have h34 : f5 25 = iz E 300 (pA P) := (k6 25 (by decide)).trans ((k3 25 (by decide)).trans hP.2.2.2.1)
          have h35 : f5 26 = iz E 300 (pN P) := (k6 26 (by decide)).trans ((k3 26 (by decide)).trans hP.2.2.2.2)
          have h36 : f5 40 = iz E 300 md0 := (k6 40 (by decide)).trans ((k3 40 (by decide)).trans hmo)
          refine F_callV hX (st := []) (c_Wt_codeForTwo E f5 P md w s md0 b i h11 ⟨h31, h32, h33, h34, h35⟩ hB h36 (by omega) (hmd i (by omega) (by omega)) (hmd (i + 1) (by omega) (by omega))) cm_Wt_codeForTwo im_Wt_codeForTwo se_Wt_codeForTwo rfl ml_Wt_124 d_Wt_writeCodes_31 (by decide) h11 rfl rfl (Nat.le_of_ble_eq_true rfl) (by decide) ?_
          rintro _ f37 ⟨rfl, e40⟩
          obtain rfl := e40.symm
          refine G_cast (st' := [.int (zI (c2F P md0 i))]) ?_ rfl rfl rfl rfl
          refine G_goto hX (tgt := 38) d_Wt_writeCodes_34 rfl ?_
          refine G_istore hX (lv' := [(4, .int (zI (c2F P md0 i))), (0, .ref (eA E 29)), (1, .ref (eA E 22)), (3, .int (zI i))]) (by decide) rfl d_Wt_writeCodes_38 ?_
          refine G_iload hX 0 rfl d_Wt_writeCodes_40 ?_
          refine G_if_lt_z hX (tgt := 60) d_Wt_writeCodes_42 rfl (by omega) (fun c41 => ?_) (fun c42 => ?_)
          · skip
            refine G_aload_n hX 1 rfl rfl d_Wt_writeCodes_60 ?_
            refine G_aload_n hX 2 rfl rfl d_Wt_writeCodes_61 ?_
            refine F_get hX fg_Wt_108 d_Wt_writeCodes_62 22 (by decide) h31 rfl ?_
            refine G_iload_n hX 3 rfl rfl d_Wt_writeCodes_65 ?_
            refine F_iald hX d_Wt_writeCodes_66 23 (by decide) h32 (by omega) ?_
            refine G_aload_n hX 2 rfl rfl d_Wt_writeCodes_67 ?_
            refine F_get hX fg_Wt_111 d_Wt_writeCodes_68 22 (by decide) h31 rfl ?_
            refine G_iload_n hX 3 rfl rfl d_Wt_writeCodes_71 ?_
            refine F_iald hX d_Wt_writeCodes_72 24 (by decide) h33 (by omega) ?_
            refine G_aload_n hX 1 rfl rfl d_Wt_writeCodes_73 ?_
            refine F_get hX fg_Wt_32 d_Wt_writeCodes_74 29 (by decide) h11 rfl ?_
            refine G_iload_n hX 3 rfl rfl d_Wt_writeCodes_77 ?_
            refine F_iald hX d_Wt_writeCodes_78 40 (by decide) h36 (by omega) ?_
            refine F_callV hX (st := []) (c_Wt_writeCode E f5 b g1 c1 L ((pT P) i) ((pS P) i) (md0 i) h11 ⟨h9, h10⟩ hrp (by omega)) cm_Wt_writeCode im_Wt_writeCode se_Wt_writeCode rfl ml_Wt_128 d_Wt_writeCodes_79 (by decide) h11 rfl rfl (Nat.le_of_ble_eq_true rfl) (by decide) ?_
            rintro _ f43 ⟨rfl, ⟨g46, n47, ⟨h48, h49⟩, rp50⟩, k51⟩
            refine G_cast (st' := []) ?_ rfl rfl rfl rfl
            refine G_iinc_z hX (lv' := [(3, .int (zI (i + 1))), (4, .int (zI (c2F P md0 i))), (0, .ref (eA E 29)), (1, .ref (eA E 22))]) 3 rfl (by decide) rfl d_Wt_writeCodes_82 ?_
            refine G_goto hX (tgt := 10) d_Wt_writeCodes_85 rfl ?_
            have hln := c1L_len (t := pT P i) (n := pS P i) (m := md0 i) (by omega)
            have hl1 := rp50.1
            rw [List.length_append] at hl1
            have hl2 := hrp.1
            refine G_loc (lv' := [(0, .ref (eA E 29)), (1, .ref (eA E 22)), (3, .int (zI (i + 1)))]) [2, 3, 0] rfl ?_
            exact ih8 (i + 1) (L ++ c1L ((pT P) i) ((pS P) i) (md0 i)) g46 n47 (kk - 1) f43 (by omega) (by omega) rp50 (by omega) (by omega) (by rw [hs, cdL_1 (by omega) hkk (by omega), List.append_assoc]) h48 h49 (Fr.tr (Fr.tr Fr.rf k6 (by decide)) k51 (by decide))
          · skip
            refine G_aload_n hX 1 rfl rfl d_Wt_writeCodes_45 ?_
            refine F_get hX fg_Wt_26 d_Wt_writeCodes_46 29 (by decide) h11 rfl ?_
            refine G_iload hX 0 rfl d_Wt_writeCodes_49 ?_
            refine F_callV hX (st := []) (c_Ro_push E f5 36 37 768 g1 c1 (c2F P md0 i) (by decide) (by decide) (by decide) ⟨h9, h10⟩ (by omega) (by omega)) cm_Ro_push im_Ro_push se_Ro_push rfl ml_Wt_50 d_Wt_writeCodes_51 (by decide) h9 rfl rfl (Nat.le_of_ble_eq_true rfl) (by decide) ?_
            rintro _ f52 ⟨rfl, ⟨h55, h56⟩, k57⟩
            refine G_cast (st' := []) ?_ rfl rfl rfl rfl
            have rp58 := rep_uz (v := c2F P md0 i) hrp
            refine G_iinc_z hX (lv' := [(3, .int (zI (i + 1))), (4, .int (zI (c2F P md0 i))), (0, .ref (eA E 29)), (1, .ref (eA E 22))]) 3 rfl (by decide) rfl d_Wt_writeCodes_54 ?_
            refine G_goto hX (tgt := 82) d_Wt_writeCodes_57 rfl ?_
            refine G_iinc_z hX (lv' := [(3, .int (zI ((i + 1) + 1))), (4, .int (zI (c2F P md0 i))), (0, .ref (eA E 29)), (1, .ref (eA E 22))]) 0 rfl (by decide) rfl d_Wt_writeCodes_82 ?_
            refine G_goto hX (tgt := 10) d_Wt_writeCodes_85 rfl ?_
            refine G_loc (lv' := [(0, .ref (eA E 29)), (1, .ref (eA E 22)), (3, .int (zI ((i + 1) + 1)))]) [2, 3, 0] rfl ?_
            refine G_cast (ih8 (i + 2) (L ++ [c2F P md0 i]) (uz g1 c1 (c2F P md0 i)) (c1 + 1) (kk - 1) f52 (by omega) (by omega) rp58 (by omega) (by omega) (by rw [hs, cdL_2 (by omega) hkk (by omega), List.append_assoc]) h55 h56 (Fr.tr (Fr.tr Fr.rf k6 (by decide)) k57 (by decide))) rfl (by rw [show i + 2 = i + 1 + 1 by omega]) rfl rfl
  have h59 : f1 37 = iz E 768 g := (k3 37 (by decide)).trans hR.2
  refine G_loc (lv' := [(0, .ref (eA E 29)), (1, .ref (eA E 22)), (3, .int (zI a))]) [1, 2, 0] rfl ?_
  exact loop4 (_ + 1) a ([]) g 0 ((b - a).toNat) f1 (Nat.lt_succ_self _) (by omega) (rep_0 g) (by omega) (by omega) rfl h2 h59 Fr.rf
