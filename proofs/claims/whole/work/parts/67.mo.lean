/-! DeltaFerryModel: readWindows, readHead, tables; printed by wip/tools/m_mo16.py -/
def st0 (i : Int) : Int := if i = 0 then 2 else if i < 19 ∨ (162 < i ∧ i < 247) then 1 else 3
def st1 (i : Int) : Int := if i < 163 then 0 else if i < 247 then 3 else 1
def st2 (i : Int) : Int := if i = 0 then 0 else if i < 19 then i - 1 else if i < 163 then (if (i - 19) % 16 = 0 then 0 else (i - 19) % 16 + 3) else if i < 235 then (i - 163) % 12 / 3 + 1 else if i < 247 then (i - 235) % 4 + 1 else 4
def st3 (i : Int) : Int := if i < 163 then 0 else if i < 235 then (i - 163) % 12 % 3 + 4 else if i < 247 then 4 else 1
def st4 (i : Int) : Int := if i < 19 then 0 else if i < 163 then (i - 19) / 16 else if i < 247 then 0 else i - 247
def st5 (i : Int) : Int := if i < 163 ∨ 246 < i then 0 else if i < 235 then (i - 163) / 12 else 6 + (i - 235) / 4
/-- the standard table of codes -/
def stF (x : Int) : Int := if x < 256 then st0 x else if x < 512 then st1 (x - 256) else if x < 768 then st2 (x - 512) else if x < 1024 then st3 (x - 768) else if x < 1280 then st4 (x - 1024) else st5 (x - 1280)
theorem stF_b {x : Int} (h : 0 ≤ x ∧ x < 1536) : (0 ≤ stF x ∧ stF x < 256) ∧ (x < 512 → stF x ≤ 3) := by
  unfold stF
  split
  · unfold st0; repeat (first | omega | split)
  · split
    · unfold st1; repeat (first | omega | split)
    · split
      · unfold st2; repeat (first | omega | split)
      · split
        · unfold st3; repeat (first | omega | split)
        · split
          · unfold st4; repeat (first | omega | split)
          · unfold st5; repeat (first | omega | split)
def ltI (o : Int → Int) (i : Int) : Prop := ∀ j, 0 ≤ j → j < i → o j = st0 j ∧ o (256 + j) = st1 j ∧ o (512 + j) = st2 j ∧ o (768 + j) = st3 j ∧ o (1024 + j) = st4 j ∧ o (1280 + j) = st5 j
theorem ltI_s {o : Int → Int} {i v0 v1 v2 v3 v4 v5 : Int} (h : ltI o i) (hi : 0 ≤ i ∧ i < 256) (h0 : v0 = st0 i) (h1 : v1 = st1 i) (h2 : v2 = st2 i) (h3 : v3 = st3 i) (h4 : v4 = st4 i) (h5 : v5 = st5 i) : ltI (uz (uz (uz (uz (uz (uz o i v0) (256 + i) v1) (512 + i) v2) (768 + i) v3) (1024 + i) v4) (1280 + i) v5) (i + 1) := by
  intro j a b
  simp only [uz]
  by_cases e : j = i
  · subst e
    refine ⟨?_, ?_, ?_, ?_, ?_, ?_⟩
    · rw [if_neg (by omega), if_neg (by omega), if_neg (by omega), if_neg (by omega), if_neg (by omega), if_pos rfl, h0]
    · rw [if_neg (by omega), if_neg (by omega), if_neg (by omega), if_neg (by omega), if_pos rfl, h1]
    · rw [if_neg (by omega), if_neg (by omega), if_neg (by omega), if_pos rfl, h2]
    · rw [if_neg (by omega), if_neg (by omega), if_pos rfl, h3]
    · rw [if_neg (by omega), if_pos rfl, h4]
    · rw [if_pos rfl, h5]
  · have := h j a (by omega)
    refine ⟨?_, ?_, ?_, ?_, ?_, ?_⟩
    · rw [if_neg (by omega), if_neg (by omega), if_neg (by omega), if_neg (by omega), if_neg (by omega), if_neg (by omega)]; exact this.1
    · rw [if_neg (by omega), if_neg (by omega), if_neg (by omega), if_neg (by omega), if_neg (by omega), if_neg (by omega)]; exact this.2.1
    · rw [if_neg (by omega), if_neg (by omega), if_neg (by omega), if_neg (by omega), if_neg (by omega), if_neg (by omega)]; exact this.2.2.1
    · rw [if_neg (by omega), if_neg (by omega), if_neg (by omega), if_neg (by omega), if_neg (by omega), if_neg (by omega)]; exact this.2.2.2.1
    · rw [if_neg (by omega), if_neg (by omega), if_neg (by omega), if_neg (by omega), if_neg (by omega), if_neg (by omega)]; exact this.2.2.2.2.1
    · rw [if_neg (by omega), if_neg (by omega), if_neg (by omega), if_neg (by omega), if_neg (by omega), if_neg (by omega)]; exact this.2.2.2.2.2
theorem ltI_e {o : Int → Int} (h : ltI o 256) : ∀ x, 0 ≤ x → x < 1536 → o x = stF x := by
  intro x a b
  unfold stF
  by_cases q0 : x < 256
  · rw [if_pos q0]; exact (h x a q0).1
  · rw [if_neg q0]
    by_cases q1 : x < 512
    · rw [if_pos q1]; have := (h (x - 256) (by omega) (by omega)).2.1; rwa [show 256 + (x - 256) = x by omega] at this
    · rw [if_neg q1]
      by_cases q2 : x < 768
      · rw [if_pos q2]; have := (h (x - 512) (by omega) (by omega)).2.2.1; rwa [show 512 + (x - 512) = x by omega] at this
      · rw [if_neg q2]
        by_cases q3 : x < 1024
        · rw [if_pos q3]; have := (h (x - 768) (by omega) (by omega)).2.2.2.1; rwa [show 768 + (x - 768) = x by omega] at this
        · rw [if_neg q3]
          by_cases q4 : x < 1280
          · rw [if_pos q4]; have := (h (x - 1024) (by omega) (by omega)).2.2.2.2.1; rwa [show 1024 + (x - 1024) = x by omega] at this
          · rw [if_neg q4]; have := (h (x - 1280) (by omega) (by omega)).2.2.2.2.2; rwa [show 1280 + (x - 1280) = x by omega] at this
theorem c_Mo_layTable (E : EV) (f : Nat → va_E) (F : Nat → Value) (ob : Int → Int) (hMo : f 61 = mob F) (hmk : moK E F) (hc81 : f 81 = iz E 1536 ob) : CF yn_Mo_layTable cd_Mo_layTable 3 none 0 E [.ref (eA E 61)] f (fun r f' => r = none ∧ ∃ (F' : Nat → Value) (ob' : Int → Int), f' 61 = mob F' ∧ F' 34 = .int (zI 1536) ∧ FrF [34] F F' ∧ f' 81 = iz E 1536 ob' ∧ (∀ x, 0 ≤ x → x < 1536 → ob' x = stF x) ∧ Fr [81, 61] f f') := by
  refine CF.of (by decide +kernel) (Nat.le_of_ble_eq_true rfl) fun X hX hE => ?_
  have hX : Ok E X "DeltaFerryModel" "layTable" cd_Mo_layTable 3 none (rl 0) := hX
  refine G_cast (lv' := [(0, .ref (eA E 61))]) ?_ rfl rfl rfl rfl
  refine G_iconst hX d_Mo_layTable_0 ?_
  refine G_istore_n hX (lv' := [(1, .int (zI 0)), (0, .ref (eA E 61))]) rfl (by decide) rfl d_Mo_layTable_1 ?_
  have loop1 : ∀ (q : Nat) (u : Int) (ob1 : Int → Int) (f2 : Nat → va_E), (1536 - u).toNat < q → (0 ≤ u ∧ u ≤ 1536) → f2 81 = iz E 1536 ob1 → Fr [81] f f2 → G E X 0 0 2 [(0, .ref (eA E 61)), (1, .int (zI u))] [] (wl E f2) := by
    intro q
    induction q with
    | zero => intro u ob1 f2 hms4; exact absurd hms4 (Nat.not_lt_zero _)
    | succ q ih5 =>
      intro u ob1 f2 hms4 hu h6 k3
      refine G_iload_n hX 1 rfl rfl d_Mo_layTable_2 ?_
      refine G_sipush hX (by decide) d_Mo_layTable_3 ?_
      refine G_icmp_ge_z hX (tgt := 22) d_Mo_layTable_6 rfl (by omega) (fun c7 => ?_) (fun c8 => ?_)
      · skip
        refine G_iconst hX d_Mo_layTable_22 ?_
        refine G_istore_n hX (lv' := [(1, .int (zI 0)), (0, .ref (eA E 61))]) rfl (by decide) rfl d_Mo_layTable_23 ?_
        have loop9 : ∀ (q : Nat) (i : Int) (ob2 : Int → Int) (f10 : Nat → va_E), (256 - i).toNat < q → (0 ≤ i ∧ i ≤ 256) → (ltI ob2 i) → f10 81 = iz E 1536 ob2 → Fr [81] f2 f10 → G E X 0 0 24 [(0, .ref (eA E 61)), (1, .int (zI i))] [] (wl E f10) := by
          intro q
          induction q with
          | zero => intro i ob2 f10 hms12; exact absurd hms12 (Nat.not_lt_zero _)
          | succ q ih13 =>
            intro i ob2 f10 hms12 hi hl h14 k11
            refine G_iload_n hX 1 rfl rfl d_Mo_layTable_24 ?_
            refine G_sipush hX (by decide) d_Mo_layTable_25 ?_
            refine G_icmp_ge_z hX (tgt := 373) d_Mo_layTable_28 rfl (by omega) (fun c15 => ?_) (fun c16 => ?_)
            · skip
              refine G_aload_n hX 0 rfl rfl d_Mo_layTable_373 ?_
              refine G_sipush hX (by decide) d_Mo_layTable_374 ?_
              have h17 : f10 61 = mob F := (k11 61 (by decide)).trans ((k3 61 (by decide)).trans hMo)
              refine M_put hX fg_Mo_364 fp_Mo_34 d_Mo_layTable_377 h17 rfl rfl (by decide) (fun f18 F19 h20 h21 k22 k23 => ?_)
              obtain rfl : i = 256 := by omega
              have h24 : f18 81 = iz E 1536 ob2 := (k23 81 (by decide)).trans h14
              exact F_vret hX hE d_Mo_layTable_380 ⟨rfl, F19, _, h20, h21, (FrF.tr FrF.rf k22 (by decide)), h24, (ltI_e hl), (Fr.tr (Fr.tr (Fr.tr Fr.rf k3 (by decide)) k11 (by decide)) k23 (by decide))⟩
            · skip
              rcases (show (i = 0) ∨ (1 ≤ i ∧ i < 19) ∨ ((19 ≤ i ∧ i < 163) ∧ (i - 19) % 16 = 0) ∨ ((19 ≤ i ∧ i < 163) ∧ ¬ (i - 19) % 16 = 0) ∨ (163 ≤ i ∧ i < 235) ∨ (235 ≤ i ∧ i < 247) ∨ (247 ≤ i ∧ i < 256) by omega) with hr | hr | hr | hr | hr | hr | hr
              · skip
                refine G_aload_n hX 0 rfl rfl d_Mo_layTable_31 ?_
                have h25 : f10 61 = mob F := (k11 61 (by decide)).trans ((k3 61 (by decide)).trans hMo)
                refine M_get hX fg_Mo_139 d_Mo_layTable_32 h25 (by decide) (hmk 35 81 (by decide)) ?_
                refine G_iload_n hX 1 rfl rfl d_Mo_layTable_35 ?_
                refine G_iload_n hX 1 rfl rfl d_Mo_layTable_36 ?_
                refine G_if_ne_z hX (tgt := 44) d_Mo_layTable_37 rfl (by omega) (fun c26 => by exfalso; omega) (fun c27 => ?_)
                refine G_iconst hX d_Mo_layTable_40 ?_
                refine G_goto hX (tgt := 69) d_Mo_layTable_41 rfl ?_
                refine F_iast hX d_Mo_layTable_69 81 (by decide) h14 (by omega) (fun f28 h29 k30 => ?_)
                refine G_aload_n hX 0 rfl rfl d_Mo_layTable_70 ?_
                have h31 : f28 61 = mob F := (k30 61 (by decide)).trans h25
                refine M_get hX fg_Mo_139 d_Mo_layTable_71 h31 (by decide) (hmk 35 81 (by decide)) ?_
                refine G_sipush hX (by decide) d_Mo_layTable_74 ?_
                refine G_iload_n hX 1 rfl rfl d_Mo_layTable_77 ?_
                refine G_iadd_z hX d_Mo_layTable_78 ?_
                refine G_iload_n hX 1 rfl rfl d_Mo_layTable_79 ?_
                refine G_sipush hX (by decide) d_Mo_layTable_80 ?_
                refine G_icmp_ge_z hX (tgt := 90) d_Mo_layTable_83 rfl (by omega) (fun c32 => by exfalso; omega) (fun c33 => ?_)
                refine G_iconst hX d_Mo_layTable_86 ?_
                refine G_goto hX (tgt := 102) d_Mo_layTable_87 rfl ?_
                refine F_iast hX d_Mo_layTable_102 81 (by decide) h29 (by omega) (fun f34 h35 k36 => ?_)
                refine G_iload_n hX 1 rfl rfl d_Mo_layTable_103 ?_
                refine G_sipush hX (by decide) d_Mo_layTable_104 ?_
                refine G_isub_z hX d_Mo_layTable_107 ?_
                refine G_bipush hX (by decide) d_Mo_layTable_108 ?_
                refine G_irem hX (by decide) d_Mo_layTable_110 ?_
                refine G_istore_n hX (lv' := [(2, .int (zI (i - 163) - zI (i - 163) / zI 12 * zI 12)), (0, .ref (eA E 61)), (1, .int (zI i))]) rfl (by decide) rfl d_Mo_layTable_111 ?_
                refine G_aload_n hX 1 rfl rfl d_Mo_layTable_112 ?_
                have h37 : f34 61 = mob F := (k36 61 (by decide)).trans h31
                refine M_get hX fg_Mo_139 d_Mo_layTable_113 h37 (by decide) (hmk 35 81 (by decide)) ?_
                refine G_sipush hX (by decide) d_Mo_layTable_116 ?_
                refine G_iload_n hX 2 rfl rfl d_Mo_layTable_119 ?_
                refine G_iadd_z hX d_Mo_layTable_120 ?_
                refine G_iload_n hX 2 rfl rfl d_Mo_layTable_121 ?_
                refine G_if_ne_z hX (tgt := 129) d_Mo_layTable_122 rfl (by omega) (fun c38 => by exfalso; omega) (fun c39 => ?_)
                refine G_iconst hX d_Mo_layTable_125 ?_
                refine G_goto hX (tgt := 209) d_Mo_layTable_126 rfl ?_
                refine F_iast hX d_Mo_layTable_209 81 (by decide) h35 (by omega) (fun f40 h41 k42 => ?_)
                refine G_aload_n hX 1 rfl rfl d_Mo_layTable_210 ?_
                have h43 : f40 61 = mob F := (k42 61 (by decide)).trans h37
                refine M_get hX fg_Mo_139 d_Mo_layTable_211 h43 (by decide) (hmk 35 81 (by decide)) ?_
                refine G_sipush hX (by decide) d_Mo_layTable_214 ?_
                refine G_iload_n hX 2 rfl rfl d_Mo_layTable_217 ?_
                refine G_iadd_z hX d_Mo_layTable_218 ?_
                refine G_iload_n hX 2 rfl rfl d_Mo_layTable_219 ?_
                refine G_sipush hX (by decide) d_Mo_layTable_220 ?_
                refine G_icmp_ge_z hX (tgt := 230) d_Mo_layTable_223 rfl (by omega) (fun c44 => by exfalso; omega) (fun c45 => ?_)
                refine G_iconst hX d_Mo_layTable_226 ?_
                refine G_goto hX (tgt := 257) d_Mo_layTable_227 rfl ?_
                refine F_iast hX d_Mo_layTable_257 81 (by decide) h41 (by omega) (fun f46 h47 k48 => ?_)
                refine G_aload_n hX 1 rfl rfl d_Mo_layTable_258 ?_
                have h49 : f46 61 = mob F := (k48 61 (by decide)).trans h43
                refine M_get hX fg_Mo_139 d_Mo_layTable_259 h49 (by decide) (hmk 35 81 (by decide)) ?_
                refine G_sipush hX (by decide) d_Mo_layTable_262 ?_
                refine G_iload_n hX 2 rfl rfl d_Mo_layTable_265 ?_
                refine G_iadd_z hX d_Mo_layTable_266 ?_
                refine G_iload_n hX 2 rfl rfl d_Mo_layTable_267 ?_
                refine G_bipush hX (by decide) d_Mo_layTable_268 ?_
                refine G_icmp_ge_z hX (tgt := 277) d_Mo_layTable_270 rfl (by omega) (fun c50 => by exfalso; omega) (fun c51 => ?_)
                refine G_iconst hX d_Mo_layTable_273 ?_
                refine G_goto hX (tgt := 310) d_Mo_layTable_274 rfl ?_
                refine F_iast hX d_Mo_layTable_310 81 (by decide) h47 (by omega) (fun f52 h53 k54 => ?_)
                refine G_aload_n hX 1 rfl rfl d_Mo_layTable_311 ?_
                have h55 : f52 61 = mob F := (k54 61 (by decide)).trans h49
                refine M_get hX fg_Mo_139 d_Mo_layTable_312 h55 (by decide) (hmk 35 81 (by decide)) ?_
                refine G_sipush hX (by decide) d_Mo_layTable_315 ?_
                refine G_iload_n hX 2 rfl rfl d_Mo_layTable_318 ?_
                refine G_iadd_z hX d_Mo_layTable_319 ?_
                refine G_iload_n hX 2 rfl rfl d_Mo_layTable_320 ?_
                refine G_sipush hX (by decide) d_Mo_layTable_321 ?_
                refine G_icmp_lt_z hX (tgt := 334) d_Mo_layTable_324 rfl (by omega) (fun c56 => ?_) (fun c57 => by exfalso; omega)
                refine G_iconst hX d_Mo_layTable_334 ?_
                refine G_goto hX (tgt := 366) d_Mo_layTable_335 rfl ?_
                refine F_iast hX d_Mo_layTable_366 81 (by decide) h53 (by omega) (fun f58 h59 k60 => ?_)
                refine G_iinc_z hX (lv' := [(1, .int (zI (i + 1))), (2, .int (zI (i - 163) - zI (i - 163) / zI 12 * zI 12)), (0, .ref (eA E 61))]) 2 rfl (by decide) rfl d_Mo_layTable_367 ?_
                refine G_goto hX (tgt := 24) d_Mo_layTable_370 rfl ?_
                refine G_loc (lv' := [(0, .ref (eA E 61)), (1, .int (zI (i + 1)))]) [2, 0] rfl ?_
                exact ih13 (i + 1) (uz (uz (uz (uz (uz (uz ob2 i 2) (256 + i) 0) (512 + i) 0) (768 + i) 0) (1024 + i) 0) (1280 + i) 0) f58 (by omega) (by omega) (ltI_s hl (by omega) (by unfold st0; (repeat (first | omega | split))) (by unfold st1; (repeat (first | omega | split))) (by unfold st2; (repeat (first | omega | split))) (by unfold st3; (repeat (first | omega | split))) (by unfold st4; (repeat (first | omega | split))) (by unfold st5; (repeat (first | omega | split)))) h59 (Fr.tr (Fr.tr (Fr.tr (Fr.tr (Fr.tr (Fr.tr (Fr.tr Fr.rf k11 (by decide)) k30 (by decide)) k36 (by decide)) k42 (by decide)) k48 (by decide)) k54 (by decide)) k60 (by decide))
              · skip
                refine G_aload_n hX 0 rfl rfl d_Mo_layTable_31 ?_
                have h61 : f10 61 = mob F := (k11 61 (by decide)).trans ((k3 61 (by decide)).trans hMo)
                refine M_get hX fg_Mo_139 d_Mo_layTable_32 h61 (by decide) (hmk 35 81 (by decide)) ?_
                refine G_iload_n hX 1 rfl rfl d_Mo_layTable_35 ?_
                refine G_iload_n hX 1 rfl rfl d_Mo_layTable_36 ?_
                refine G_if_ne_z hX (tgt := 44) d_Mo_layTable_37 rfl (by omega) (fun c62 => ?_) (fun c63 => by exfalso; omega)
                refine G_iload_n hX 1 rfl rfl d_Mo_layTable_44 ?_
                refine G_bipush hX (by decide) d_Mo_layTable_45 ?_
                refine G_icmp_lt_z hX (tgt := 64) d_Mo_layTable_47 rfl (by omega) (fun c64 => ?_) (fun c65 => by exfalso; omega)
                refine G_iconst hX d_Mo_layTable_64 ?_
                refine G_goto hX (tgt := 69) d_Mo_layTable_65 rfl ?_
                refine F_iast hX d_Mo_layTable_69 81 (by decide) h14 (by omega) (fun f66 h67 k68 => ?_)
                refine G_aload_n hX 0 rfl rfl d_Mo_layTable_70 ?_
                have h69 : f66 61 = mob F := (k68 61 (by decide)).trans h61
                refine M_get hX fg_Mo_139 d_Mo_layTable_71 h69 (by decide) (hmk 35 81 (by decide)) ?_
                refine G_sipush hX (by decide) d_Mo_layTable_74 ?_
                refine G_iload_n hX 1 rfl rfl d_Mo_layTable_77 ?_
                refine G_iadd_z hX d_Mo_layTable_78 ?_
                refine G_iload_n hX 1 rfl rfl d_Mo_layTable_79 ?_
                refine G_sipush hX (by decide) d_Mo_layTable_80 ?_
                refine G_icmp_ge_z hX (tgt := 90) d_Mo_layTable_83 rfl (by omega) (fun c70 => by exfalso; omega) (fun c71 => ?_)
                refine G_iconst hX d_Mo_layTable_86 ?_
                refine G_goto hX (tgt := 102) d_Mo_layTable_87 rfl ?_
                refine F_iast hX d_Mo_layTable_102 81 (by decide) h67 (by omega) (fun f72 h73 k74 => ?_)
                refine G_iload_n hX 1 rfl rfl d_Mo_layTable_103 ?_
                refine G_sipush hX (by decide) d_Mo_layTable_104 ?_
                refine G_isub_z hX d_Mo_layTable_107 ?_
                refine G_bipush hX (by decide) d_Mo_layTable_108 ?_
                refine G_irem hX (by decide) d_Mo_layTable_110 ?_
                refine G_istore_n hX (lv' := [(2, .int (zI (i - 163) - zI (i - 163) / zI 12 * zI 12)), (0, .ref (eA E 61)), (1, .int (zI i))]) rfl (by decide) rfl d_Mo_layTable_111 ?_
                refine G_aload_n hX 1 rfl rfl d_Mo_layTable_112 ?_
                have h75 : f72 61 = mob F := (k74 61 (by decide)).trans h69
                refine M_get hX fg_Mo_139 d_Mo_layTable_113 h75 (by decide) (hmk 35 81 (by decide)) ?_
                refine G_sipush hX (by decide) d_Mo_layTable_116 ?_
                refine G_iload_n hX 2 rfl rfl d_Mo_layTable_119 ?_
                refine G_iadd_z hX d_Mo_layTable_120 ?_
                refine G_iload_n hX 2 rfl rfl d_Mo_layTable_121 ?_
                refine G_if_ne_z hX (tgt := 129) d_Mo_layTable_122 rfl (by omega) (fun c76 => ?_) (fun c77 => by exfalso; omega)
                refine G_iload_n hX 2 rfl rfl d_Mo_layTable_129 ?_
                refine G_bipush hX (by decide) d_Mo_layTable_130 ?_
                refine G_icmp_ge_z hX (tgt := 141) d_Mo_layTable_132 rfl (by omega) (fun c78 => by exfalso; omega) (fun c79 => ?_)
                refine G_iload_n hX 2 rfl rfl d_Mo_layTable_135 ?_
                refine G_iconst hX d_Mo_layTable_136 ?_
                refine G_isub_z hX d_Mo_layTable_137 ?_
                refine G_goto hX (tgt := 209) d_Mo_layTable_138 rfl ?_
                refine F_iast hX d_Mo_layTable_209 81 (by decide) h73 (by omega) (fun f80 h81 k82 => ?_)
                refine G_aload_n hX 1 rfl rfl d_Mo_layTable_210 ?_
                have h83 : f80 61 = mob F := (k82 61 (by decide)).trans h75
                refine M_get hX fg_Mo_139 d_Mo_layTable_211 h83 (by decide) (hmk 35 81 (by decide)) ?_
                refine G_sipush hX (by decide) d_Mo_layTable_214 ?_
                refine G_iload_n hX 2 rfl rfl d_Mo_layTable_217 ?_
                refine G_iadd_z hX d_Mo_layTable_218 ?_
                refine G_iload_n hX 2 rfl rfl d_Mo_layTable_219 ?_
                refine G_sipush hX (by decide) d_Mo_layTable_220 ?_
                refine G_icmp_ge_z hX (tgt := 230) d_Mo_layTable_223 rfl (by omega) (fun c84 => by exfalso; omega) (fun c85 => ?_)
                refine G_iconst hX d_Mo_layTable_226 ?_
                refine G_goto hX (tgt := 257) d_Mo_layTable_227 rfl ?_
                refine F_iast hX d_Mo_layTable_257 81 (by decide) h81 (by omega) (fun f86 h87 k88 => ?_)
                refine G_aload_n hX 1 rfl rfl d_Mo_layTable_258 ?_
                have h89 : f86 61 = mob F := (k88 61 (by decide)).trans h83
                refine M_get hX fg_Mo_139 d_Mo_layTable_259 h89 (by decide) (hmk 35 81 (by decide)) ?_
                refine G_sipush hX (by decide) d_Mo_layTable_262 ?_
                refine G_iload_n hX 2 rfl rfl d_Mo_layTable_265 ?_
                refine G_iadd_z hX d_Mo_layTable_266 ?_
                refine G_iload_n hX 2 rfl rfl d_Mo_layTable_267 ?_
                refine G_bipush hX (by decide) d_Mo_layTable_268 ?_
                refine G_icmp_ge_z hX (tgt := 277) d_Mo_layTable_270 rfl (by omega) (fun c90 => by exfalso; omega) (fun c91 => ?_)
                refine G_iconst hX d_Mo_layTable_273 ?_
                refine G_goto hX (tgt := 310) d_Mo_layTable_274 rfl ?_
                refine F_iast hX d_Mo_layTable_310 81 (by decide) h87 (by omega) (fun f92 h93 k94 => ?_)
                refine G_aload_n hX 1 rfl rfl d_Mo_layTable_311 ?_
                have h95 : f92 61 = mob F := (k94 61 (by decide)).trans h89
                refine M_get hX fg_Mo_139 d_Mo_layTable_312 h95 (by decide) (hmk 35 81 (by decide)) ?_
                refine G_sipush hX (by decide) d_Mo_layTable_315 ?_
                refine G_iload_n hX 2 rfl rfl d_Mo_layTable_318 ?_
                refine G_iadd_z hX d_Mo_layTable_319 ?_
                refine G_iload_n hX 2 rfl rfl d_Mo_layTable_320 ?_
                refine G_sipush hX (by decide) d_Mo_layTable_321 ?_
                refine G_icmp_lt_z hX (tgt := 334) d_Mo_layTable_324 rfl (by omega) (fun c96 => ?_) (fun c97 => by exfalso; omega)
                refine G_iconst hX d_Mo_layTable_334 ?_
                refine G_goto hX (tgt := 366) d_Mo_layTable_335 rfl ?_
                refine F_iast hX d_Mo_layTable_366 81 (by decide) h93 (by omega) (fun f98 h99 k100 => ?_)
                refine G_iinc_z hX (lv' := [(1, .int (zI (i + 1))), (2, .int (zI (i - 163) - zI (i - 163) / zI 12 * zI 12)), (0, .ref (eA E 61))]) 2 rfl (by decide) rfl d_Mo_layTable_367 ?_
                refine G_goto hX (tgt := 24) d_Mo_layTable_370 rfl ?_
                refine G_loc (lv' := [(0, .ref (eA E 61)), (1, .int (zI (i + 1)))]) [2, 0] rfl ?_
                exact ih13 (i + 1) (uz (uz (uz (uz (uz (uz ob2 i 1) (256 + i) 0) (512 + i) (i - 1)) (768 + i) 0) (1024 + i) 0) (1280 + i) 0) f98 (by omega) (by omega) (ltI_s hl (by omega) (by unfold st0; (repeat (first | omega | split))) (by unfold st1; (repeat (first | omega | split))) (by unfold st2; (repeat (first | omega | split))) (by unfold st3; (repeat (first | omega | split))) (by unfold st4; (repeat (first | omega | split))) (by unfold st5; (repeat (first | omega | split)))) h99 (Fr.tr (Fr.tr (Fr.tr (Fr.tr (Fr.tr (Fr.tr (Fr.tr Fr.rf k11 (by decide)) k68 (by decide)) k74 (by decide)) k82 (by decide)) k88 (by decide)) k94 (by decide)) k100 (by decide))
              · skip
                refine G_aload_n hX 0 rfl rfl d_Mo_layTable_31 ?_
                have h101 : f10 61 = mob F := (k11 61 (by decide)).trans ((k3 61 (by decide)).trans hMo)
                refine M_get hX fg_Mo_139 d_Mo_layTable_32 h101 (by decide) (hmk 35 81 (by decide)) ?_
                refine G_iload_n hX 1 rfl rfl d_Mo_layTable_35 ?_
                refine G_iload_n hX 1 rfl rfl d_Mo_layTable_36 ?_
                refine G_if_ne_z hX (tgt := 44) d_Mo_layTable_37 rfl (by omega) (fun c102 => ?_) (fun c103 => by exfalso; omega)
                refine G_iload_n hX 1 rfl rfl d_Mo_layTable_44 ?_
                refine G_bipush hX (by decide) d_Mo_layTable_45 ?_
                refine G_icmp_lt_z hX (tgt := 64) d_Mo_layTable_47 rfl (by omega) (fun c104 => by exfalso; omega) (fun c105 => ?_)
                refine G_iload_n hX 1 rfl rfl d_Mo_layTable_50 ?_
                refine G_sipush hX (by decide) d_Mo_layTable_51 ?_
                refine G_icmp_le_z hX (tgt := 68) d_Mo_layTable_54 rfl (by omega) (fun c106 => ?_) (fun c107 => by exfalso; omega)
                refine G_iconst hX d_Mo_layTable_68 ?_
                refine F_iast hX d_Mo_layTable_69 81 (by decide) h14 (by omega) (fun f108 h109 k110 => ?_)
                refine G_aload_n hX 0 rfl rfl d_Mo_layTable_70 ?_
                have h111 : f108 61 = mob F := (k110 61 (by decide)).trans h101
                refine M_get hX fg_Mo_139 d_Mo_layTable_71 h111 (by decide) (hmk 35 81 (by decide)) ?_
                refine G_sipush hX (by decide) d_Mo_layTable_74 ?_
                refine G_iload_n hX 1 rfl rfl d_Mo_layTable_77 ?_
                refine G_iadd_z hX d_Mo_layTable_78 ?_
                refine G_iload_n hX 1 rfl rfl d_Mo_layTable_79 ?_
                refine G_sipush hX (by decide) d_Mo_layTable_80 ?_
                refine G_icmp_ge_z hX (tgt := 90) d_Mo_layTable_83 rfl (by omega) (fun c112 => by exfalso; omega) (fun c113 => ?_)
                refine G_iconst hX d_Mo_layTable_86 ?_
                refine G_goto hX (tgt := 102) d_Mo_layTable_87 rfl ?_
                refine F_iast hX d_Mo_layTable_102 81 (by decide) h109 (by omega) (fun f114 h115 k116 => ?_)
                refine G_iload_n hX 1 rfl rfl d_Mo_layTable_103 ?_
                refine G_sipush hX (by decide) d_Mo_layTable_104 ?_
                refine G_isub_z hX d_Mo_layTable_107 ?_
                refine G_bipush hX (by decide) d_Mo_layTable_108 ?_
                refine G_irem hX (by decide) d_Mo_layTable_110 ?_
                refine G_istore_n hX (lv' := [(2, .int (zI (i - 163) - zI (i - 163) / zI 12 * zI 12)), (0, .ref (eA E 61)), (1, .int (zI i))]) rfl (by decide) rfl d_Mo_layTable_111 ?_
                refine G_aload_n hX 1 rfl rfl d_Mo_layTable_112 ?_
                have h117 : f114 61 = mob F := (k116 61 (by decide)).trans h111
                refine M_get hX fg_Mo_139 d_Mo_layTable_113 h117 (by decide) (hmk 35 81 (by decide)) ?_
                refine G_sipush hX (by decide) d_Mo_layTable_116 ?_
                refine G_iload_n hX 2 rfl rfl d_Mo_layTable_119 ?_
                refine G_iadd_z hX d_Mo_layTable_120 ?_
                refine G_iload_n hX 2 rfl rfl d_Mo_layTable_121 ?_
                refine G_if_ne_z hX (tgt := 129) d_Mo_layTable_122 rfl (by omega) (fun c118 => ?_) (fun c119 => by exfalso; omega)
                refine G_iload_n hX 2 rfl rfl d_Mo_layTable_129 ?_
                refine G_bipush hX (by decide) d_Mo_layTable_130 ?_
                refine G_icmp_ge_z hX (tgt := 141) d_Mo_layTable_132 rfl (by omega) (fun c120 => ?_) (fun c121 => by exfalso; omega)
                refine G_iload_n hX 2 rfl rfl d_Mo_layTable_141 ?_
                refine G_sipush hX (by decide) d_Mo_layTable_142 ?_
                refine G_icmp_ge_z hX (tgt := 174) d_Mo_layTable_145 rfl (by omega) (fun c122 => by exfalso; omega) (fun c123 => ?_)
                refine G_iload_n hX 2 rfl rfl d_Mo_layTable_148 ?_
                refine G_bipush hX (by decide) d_Mo_layTable_149 ?_
                refine G_isub_z hX d_Mo_layTable_151 ?_
                refine G_bipush hX (by decide) d_Mo_layTable_152 ?_
                refine G_irem_z hX (by omega) d_Mo_layTable_154 ?_
                refine G_if_ne_z hX (tgt := 162) d_Mo_layTable_155 rfl (by omega) (fun c124 => by exfalso; omega) (fun c125 => ?_)
                refine G_iconst hX d_Mo_layTable_158 ?_
                refine G_goto hX (tgt := 209) d_Mo_layTable_159 rfl ?_
                refine F_iast hX d_Mo_layTable_209 81 (by decide) h115 (by omega) (fun f126 h127 k128 => ?_)
                refine G_aload_n hX 1 rfl rfl d_Mo_layTable_210 ?_
                have h129 : f126 61 = mob F := (k128 61 (by decide)).trans h117
                refine M_get hX fg_Mo_139 d_Mo_layTable_211 h129 (by decide) (hmk 35 81 (by decide)) ?_
                refine G_sipush hX (by decide) d_Mo_layTable_214 ?_
                refine G_iload_n hX 2 rfl rfl d_Mo_layTable_217 ?_
                refine G_iadd_z hX d_Mo_layTable_218 ?_
                refine G_iload_n hX 2 rfl rfl d_Mo_layTable_219 ?_
                refine G_sipush hX (by decide) d_Mo_layTable_220 ?_
                refine G_icmp_ge_z hX (tgt := 230) d_Mo_layTable_223 rfl (by omega) (fun c130 => by exfalso; omega) (fun c131 => ?_)
                refine G_iconst hX d_Mo_layTable_226 ?_
                refine G_goto hX (tgt := 257) d_Mo_layTable_227 rfl ?_
                refine F_iast hX d_Mo_layTable_257 81 (by decide) h127 (by omega) (fun f132 h133 k134 => ?_)
                refine G_aload_n hX 1 rfl rfl d_Mo_layTable_258 ?_
                have h135 : f132 61 = mob F := (k134 61 (by decide)).trans h129
                refine M_get hX fg_Mo_139 d_Mo_layTable_259 h135 (by decide) (hmk 35 81 (by decide)) ?_
                refine G_sipush hX (by decide) d_Mo_layTable_262 ?_
                refine G_iload_n hX 2 rfl rfl d_Mo_layTable_265 ?_
                refine G_iadd_z hX d_Mo_layTable_266 ?_
                refine G_iload_n hX 2 rfl rfl d_Mo_layTable_267 ?_
                refine G_bipush hX (by decide) d_Mo_layTable_268 ?_
                refine G_icmp_ge_z hX (tgt := 277) d_Mo_layTable_270 rfl (by omega) (fun c136 => ?_) (fun c137 => by exfalso; omega)
                refine G_iload_n hX 2 rfl rfl d_Mo_layTable_277 ?_
                refine G_sipush hX (by decide) d_Mo_layTable_278 ?_
                refine G_icmp_ge_z hX (tgt := 294) d_Mo_layTable_281 rfl (by omega) (fun c138 => by exfalso; omega) (fun c139 => ?_)
                refine G_iload_n hX 2 rfl rfl d_Mo_layTable_284 ?_
                refine G_bipush hX (by decide) d_Mo_layTable_285 ?_
                refine G_isub_z hX d_Mo_layTable_287 ?_
                refine G_bipush hX (by decide) d_Mo_layTable_288 ?_
                refine G_idiv_z hX (by omega) d_Mo_layTable_290 ?_
                refine G_goto hX (tgt := 310) d_Mo_layTable_291 rfl ?_
                refine F_iast hX d_Mo_layTable_310 81 (by decide) h133 (by omega) (fun f140 h141 k142 => ?_)
                refine G_aload_n hX 1 rfl rfl d_Mo_layTable_311 ?_
                have h143 : f140 61 = mob F := (k142 61 (by decide)).trans h135
                refine M_get hX fg_Mo_139 d_Mo_layTable_312 h143 (by decide) (hmk 35 81 (by decide)) ?_
                refine G_sipush hX (by decide) d_Mo_layTable_315 ?_
                refine G_iload_n hX 2 rfl rfl d_Mo_layTable_318 ?_
                refine G_iadd_z hX d_Mo_layTable_319 ?_
                refine G_iload_n hX 2 rfl rfl d_Mo_layTable_320 ?_
                refine G_sipush hX (by decide) d_Mo_layTable_321 ?_
                refine G_icmp_lt_z hX (tgt := 334) d_Mo_layTable_324 rfl (by omega) (fun c144 => ?_) (fun c145 => by exfalso; omega)
                refine G_iconst hX d_Mo_layTable_334 ?_
                refine G_goto hX (tgt := 366) d_Mo_layTable_335 rfl ?_
                refine F_iast hX d_Mo_layTable_366 81 (by decide) h141 (by omega) (fun f146 h147 k148 => ?_)
                refine G_iinc_z hX (lv' := [(1, .int (zI (i + 1))), (2, .int (zI (i - 163) - zI (i - 163) / zI 12 * zI 12)), (0, .ref (eA E 61))]) 2 rfl (by decide) rfl d_Mo_layTable_367 ?_
                refine G_goto hX (tgt := 24) d_Mo_layTable_370 rfl ?_
                refine G_loc (lv' := [(0, .ref (eA E 61)), (1, .int (zI (i + 1)))]) [2, 0] rfl ?_
                exact ih13 (i + 1) (uz (uz (uz (uz (uz (uz ob2 i 3) (256 + i) 0) (512 + i) 0) (768 + i) 0) (1024 + i) ((i - 19) / 16)) (1280 + i) 0) f146 (by omega) (by omega) (ltI_s hl (by omega) (by unfold st0; (repeat (first | omega | split))) (by unfold st1; (repeat (first | omega | split))) (by unfold st2; (repeat (first | omega | split))) (by unfold st3; (repeat (first | omega | split))) (by unfold st4; (repeat (first | omega | split))) (by unfold st5; (repeat (first | omega | split)))) h147 (Fr.tr (Fr.tr (Fr.tr (Fr.tr (Fr.tr (Fr.tr (Fr.tr Fr.rf k11 (by decide)) k110 (by decide)) k116 (by decide)) k128 (by decide)) k134 (by decide)) k142 (by decide)) k148 (by decide))
              · skip
                refine G_aload_n hX 0 rfl rfl d_Mo_layTable_31 ?_
                have h149 : f10 61 = mob F := (k11 61 (by decide)).trans ((k3 61 (by decide)).trans hMo)
                refine M_get hX fg_Mo_139 d_Mo_layTable_32 h149 (by decide) (hmk 35 81 (by decide)) ?_
                refine G_iload_n hX 1 rfl rfl d_Mo_layTable_35 ?_
                refine G_iload_n hX 1 rfl rfl d_Mo_layTable_36 ?_
                refine G_if_ne_z hX (tgt := 44) d_Mo_layTable_37 rfl (by omega) (fun c150 => ?_) (fun c151 => by exfalso; omega)
                refine G_iload_n hX 1 rfl rfl d_Mo_layTable_44 ?_
                refine G_bipush hX (by decide) d_Mo_layTable_45 ?_
                refine G_icmp_lt_z hX (tgt := 64) d_Mo_layTable_47 rfl (by omega) (fun c152 => by exfalso; omega) (fun c153 => ?_)
                refine G_iload_n hX 1 rfl rfl d_Mo_layTable_50 ?_
                refine G_sipush hX (by decide) d_Mo_layTable_51 ?_
                refine G_icmp_le_z hX (tgt := 68) d_Mo_layTable_54 rfl (by omega) (fun c154 => ?_) (fun c155 => by exfalso; omega)
                refine G_iconst hX d_Mo_layTable_68 ?_
                refine F_iast hX d_Mo_layTable_69 81 (by decide) h14 (by omega) (fun f156 h157 k158 => ?_)
                refine G_aload_n hX 0 rfl rfl d_Mo_layTable_70 ?_
                have h159 : f156 61 = mob F := (k158 61 (by decide)).trans h149
                refine M_get hX fg_Mo_139 d_Mo_layTable_71 h159 (by decide) (hmk 35 81 (by decide)) ?_
                refine G_sipush hX (by decide) d_Mo_layTable_74 ?_
                refine G_iload_n hX 1 rfl rfl d_Mo_layTable_77 ?_
                refine G_iadd_z hX d_Mo_layTable_78 ?_
                refine G_iload_n hX 1 rfl rfl d_Mo_layTable_79 ?_
                refine G_sipush hX (by decide) d_Mo_layTable_80 ?_
                refine G_icmp_ge_z hX (tgt := 90) d_Mo_layTable_83 rfl (by omega) (fun c160 => by exfalso; omega) (fun c161 => ?_)
                refine G_iconst hX d_Mo_layTable_86 ?_
                refine G_goto hX (tgt := 102) d_Mo_layTable_87 rfl ?_
                refine F_iast hX d_Mo_layTable_102 81 (by decide) h157 (by omega) (fun f162 h163 k164 => ?_)
                refine G_iload_n hX 1 rfl rfl d_Mo_layTable_103 ?_
                refine G_sipush hX (by decide) d_Mo_layTable_104 ?_
                refine G_isub_z hX d_Mo_layTable_107 ?_
                refine G_bipush hX (by decide) d_Mo_layTable_108 ?_
                refine G_irem hX (by decide) d_Mo_layTable_110 ?_
                refine G_istore_n hX (lv' := [(2, .int (zI (i - 163) - zI (i - 163) / zI 12 * zI 12)), (0, .ref (eA E 61)), (1, .int (zI i))]) rfl (by decide) rfl d_Mo_layTable_111 ?_
                refine G_aload_n hX 1 rfl rfl d_Mo_layTable_112 ?_
                have h165 : f162 61 = mob F := (k164 61 (by decide)).trans h159
                refine M_get hX fg_Mo_139 d_Mo_layTable_113 h165 (by decide) (hmk 35 81 (by decide)) ?_
                refine G_sipush hX (by decide) d_Mo_layTable_116 ?_
                refine G_iload_n hX 2 rfl rfl d_Mo_layTable_119 ?_
                refine G_iadd_z hX d_Mo_layTable_120 ?_
                refine G_iload_n hX 2 rfl rfl d_Mo_layTable_121 ?_
                refine G_if_ne_z hX (tgt := 129) d_Mo_layTable_122 rfl (by omega) (fun c166 => ?_) (fun c167 => by exfalso; omega)
                refine G_iload_n hX 2 rfl rfl d_Mo_layTable_129 ?_
                refine G_bipush hX (by decide) d_Mo_layTable_130 ?_
                refine G_icmp_ge_z hX (tgt := 141) d_Mo_layTable_132 rfl (by omega) (fun c168 => ?_) (fun c169 => by exfalso; omega)
                refine G_iload_n hX 2 rfl rfl d_Mo_layTable_141 ?_
                refine G_sipush hX (by decide) d_Mo_layTable_142 ?_
                refine G_icmp_ge_z hX (tgt := 174) d_Mo_layTable_145 rfl (by omega) (fun c170 => by exfalso; omega) (fun c171 => ?_)
                refine G_iload_n hX 2 rfl rfl d_Mo_layTable_148 ?_
                refine G_bipush hX (by decide) d_Mo_layTable_149 ?_
                refine G_isub_z hX d_Mo_layTable_151 ?_
                refine G_bipush hX (by decide) d_Mo_layTable_152 ?_
                refine G_irem_z hX (by omega) d_Mo_layTable_154 ?_
                refine G_if_ne_z hX (tgt := 162) d_Mo_layTable_155 rfl (by omega) (fun c172 => ?_) (fun c173 => by exfalso; omega)
                refine G_iload_n hX 2 rfl rfl d_Mo_layTable_162 ?_
                refine G_bipush hX (by decide) d_Mo_layTable_163 ?_
                refine G_isub_z hX d_Mo_layTable_165 ?_
                refine G_bipush hX (by decide) d_Mo_layTable_166 ?_
                refine G_irem_z hX (by omega) d_Mo_layTable_168 ?_
                refine G_iconst hX d_Mo_layTable_169 ?_
                refine G_iadd_z hX d_Mo_layTable_170 ?_
                refine G_goto hX (tgt := 209) d_Mo_layTable_171 rfl ?_
                refine F_iast hX d_Mo_layTable_209 81 (by decide) h163 (by omega) (fun f174 h175 k176 => ?_)
                refine G_aload_n hX 1 rfl rfl d_Mo_layTable_210 ?_
                have h177 : f174 61 = mob F := (k176 61 (by decide)).trans h165
                refine M_get hX fg_Mo_139 d_Mo_layTable_211 h177 (by decide) (hmk 35 81 (by decide)) ?_
                refine G_sipush hX (by decide) d_Mo_layTable_214 ?_
                refine G_iload_n hX 2 rfl rfl d_Mo_layTable_217 ?_
                refine G_iadd_z hX d_Mo_layTable_218 ?_
                refine G_iload_n hX 2 rfl rfl d_Mo_layTable_219 ?_
                refine G_sipush hX (by decide) d_Mo_layTable_220 ?_
                refine G_icmp_ge_z hX (tgt := 230) d_Mo_layTable_223 rfl (by omega) (fun c178 => by exfalso; omega) (fun c179 => ?_)
                refine G_iconst hX d_Mo_layTable_226 ?_
                refine G_goto hX (tgt := 257) d_Mo_layTable_227 rfl ?_
                refine F_iast hX d_Mo_layTable_257 81 (by decide) h175 (by omega) (fun f180 h181 k182 => ?_)
                refine G_aload_n hX 1 rfl rfl d_Mo_layTable_258 ?_
                have h183 : f180 61 = mob F := (k182 61 (by decide)).trans h177
                refine M_get hX fg_Mo_139 d_Mo_layTable_259 h183 (by decide) (hmk 35 81 (by decide)) ?_
                refine G_sipush hX (by decide) d_Mo_layTable_262 ?_
                refine G_iload_n hX 2 rfl rfl d_Mo_layTable_265 ?_
                refine G_iadd_z hX d_Mo_layTable_266 ?_
                refine G_iload_n hX 2 rfl rfl d_Mo_layTable_267 ?_
                refine G_bipush hX (by decide) d_Mo_layTable_268 ?_
                refine G_icmp_ge_z hX (tgt := 277) d_Mo_layTable_270 rfl (by omega) (fun c184 => ?_) (fun c185 => by exfalso; omega)
                refine G_iload_n hX 2 rfl rfl d_Mo_layTable_277 ?_
                refine G_sipush hX (by decide) d_Mo_layTable_278 ?_
                refine G_icmp_ge_z hX (tgt := 294) d_Mo_layTable_281 rfl (by omega) (fun c186 => by exfalso; omega) (fun c187 => ?_)
                refine G_iload_n hX 2 rfl rfl d_Mo_layTable_284 ?_
                refine G_bipush hX (by decide) d_Mo_layTable_285 ?_
                refine G_isub_z hX d_Mo_layTable_287 ?_
                refine G_bipush hX (by decide) d_Mo_layTable_288 ?_
                refine G_idiv_z hX (by omega) d_Mo_layTable_290 ?_
                refine G_goto hX (tgt := 310) d_Mo_layTable_291 rfl ?_
                refine F_iast hX d_Mo_layTable_310 81 (by decide) h181 (by omega) (fun f188 h189 k190 => ?_)
                refine G_aload_n hX 1 rfl rfl d_Mo_layTable_311 ?_
                have h191 : f188 61 = mob F := (k190 61 (by decide)).trans h183
                refine M_get hX fg_Mo_139 d_Mo_layTable_312 h191 (by decide) (hmk 35 81 (by decide)) ?_
                refine G_sipush hX (by decide) d_Mo_layTable_315 ?_
                refine G_iload_n hX 2 rfl rfl d_Mo_layTable_318 ?_
                refine G_iadd_z hX d_Mo_layTable_319 ?_
                refine G_iload_n hX 2 rfl rfl d_Mo_layTable_320 ?_
                refine G_sipush hX (by decide) d_Mo_layTable_321 ?_
                refine G_icmp_lt_z hX (tgt := 334) d_Mo_layTable_324 rfl (by omega) (fun c192 => ?_) (fun c193 => by exfalso; omega)
                refine G_iconst hX d_Mo_layTable_334 ?_
                refine G_goto hX (tgt := 366) d_Mo_layTable_335 rfl ?_
                refine F_iast hX d_Mo_layTable_366 81 (by decide) h189 (by omega) (fun f194 h195 k196 => ?_)
                refine G_iinc_z hX (lv' := [(1, .int (zI (i + 1))), (2, .int (zI (i - 163) - zI (i - 163) / zI 12 * zI 12)), (0, .ref (eA E 61))]) 2 rfl (by decide) rfl d_Mo_layTable_367 ?_
                refine G_goto hX (tgt := 24) d_Mo_layTable_370 rfl ?_
                refine G_loc (lv' := [(0, .ref (eA E 61)), (1, .int (zI (i + 1)))]) [2, 0] rfl ?_
                exact ih13 (i + 1) (uz (uz (uz (uz (uz (uz ob2 i 3) (256 + i) 0) (512 + i) (((i - 19) % 16) + 3)) (768 + i) 0) (1024 + i) ((i - 19) / 16)) (1280 + i) 0) f194 (by omega) (by omega) (ltI_s hl (by omega) (by unfold st0; (repeat (first | omega | split))) (by unfold st1; (repeat (first | omega | split))) (by unfold st2; (repeat (first | omega | split))) (by unfold st3; (repeat (first | omega | split))) (by unfold st4; (repeat (first | omega | split))) (by unfold st5; (repeat (first | omega | split)))) h195 (Fr.tr (Fr.tr (Fr.tr (Fr.tr (Fr.tr (Fr.tr (Fr.tr Fr.rf k11 (by decide)) k158 (by decide)) k164 (by decide)) k176 (by decide)) k182 (by decide)) k190 (by decide)) k196 (by decide))
              · skip
                refine G_aload_n hX 0 rfl rfl d_Mo_layTable_31 ?_
                have h197 : f10 61 = mob F := (k11 61 (by decide)).trans ((k3 61 (by decide)).trans hMo)
                refine M_get hX fg_Mo_139 d_Mo_layTable_32 h197 (by decide) (hmk 35 81 (by decide)) ?_
                refine G_iload_n hX 1 rfl rfl d_Mo_layTable_35 ?_
                refine G_iload_n hX 1 rfl rfl d_Mo_layTable_36 ?_
                refine G_if_ne_z hX (tgt := 44) d_Mo_layTable_37 rfl (by omega) (fun c198 => ?_) (fun c199 => by exfalso; omega)
                refine G_iload_n hX 1 rfl rfl d_Mo_layTable_44 ?_
                refine G_bipush hX (by decide) d_Mo_layTable_45 ?_
                refine G_icmp_lt_z hX (tgt := 64) d_Mo_layTable_47 rfl (by omega) (fun c200 => by exfalso; omega) (fun c201 => ?_)
                refine G_iload_n hX 1 rfl rfl d_Mo_layTable_50 ?_
                refine G_sipush hX (by decide) d_Mo_layTable_51 ?_
                refine G_icmp_le_z hX (tgt := 68) d_Mo_layTable_54 rfl (by omega) (fun c202 => by exfalso; omega) (fun c203 => ?_)
                refine G_iload_n hX 1 rfl rfl d_Mo_layTable_57 ?_
                refine G_sipush hX (by decide) d_Mo_layTable_58 ?_
                refine G_icmp_ge_z hX (tgt := 68) d_Mo_layTable_61 rfl (by omega) (fun c204 => by exfalso; omega) (fun c205 => ?_)
                refine G_iconst hX d_Mo_layTable_64 ?_
                refine G_goto hX (tgt := 69) d_Mo_layTable_65 rfl ?_
                refine F_iast hX d_Mo_layTable_69 81 (by decide) h14 (by omega) (fun f206 h207 k208 => ?_)
                refine G_aload_n hX 0 rfl rfl d_Mo_layTable_70 ?_
                have h209 : f206 61 = mob F := (k208 61 (by decide)).trans h197
                refine M_get hX fg_Mo_139 d_Mo_layTable_71 h209 (by decide) (hmk 35 81 (by decide)) ?_
                refine G_sipush hX (by decide) d_Mo_layTable_74 ?_
                refine G_iload_n hX 1 rfl rfl d_Mo_layTable_77 ?_
                refine G_iadd_z hX d_Mo_layTable_78 ?_
                refine G_iload_n hX 1 rfl rfl d_Mo_layTable_79 ?_
                refine G_sipush hX (by decide) d_Mo_layTable_80 ?_
                refine G_icmp_ge_z hX (tgt := 90) d_Mo_layTable_83 rfl (by omega) (fun c210 => ?_) (fun c211 => by exfalso; omega)
                refine G_iload_n hX 1 rfl rfl d_Mo_layTable_90 ?_
                refine G_sipush hX (by decide) d_Mo_layTable_91 ?_
                refine G_icmp_ge_z hX (tgt := 101) d_Mo_layTable_94 rfl (by omega) (fun c212 => by exfalso; omega) (fun c213 => ?_)
                refine G_iconst hX d_Mo_layTable_97 ?_
                refine G_goto hX (tgt := 102) d_Mo_layTable_98 rfl ?_
                refine F_iast hX d_Mo_layTable_102 81 (by decide) h207 (by omega) (fun f214 h215 k216 => ?_)
                refine G_iload_n hX 1 rfl rfl d_Mo_layTable_103 ?_
                refine G_sipush hX (by decide) d_Mo_layTable_104 ?_
                refine G_isub_z hX d_Mo_layTable_107 ?_
                refine G_bipush hX (by decide) d_Mo_layTable_108 ?_
                refine G_irem_z hX (by omega) d_Mo_layTable_110 ?_
                refine G_istore_n hX (lv' := [(2, .int (zI ((i - 163) % 12))), (0, .ref (eA E 61)), (1, .int (zI i))]) rfl (by decide) rfl d_Mo_layTable_111 ?_
                refine G_aload_n hX 1 rfl rfl d_Mo_layTable_112 ?_
                have h217 : f214 61 = mob F := (k216 61 (by decide)).trans h209
                refine M_get hX fg_Mo_139 d_Mo_layTable_113 h217 (by decide) (hmk 35 81 (by decide)) ?_
                refine G_sipush hX (by decide) d_Mo_layTable_116 ?_
                refine G_iload_n hX 2 rfl rfl d_Mo_layTable_119 ?_
                refine G_iadd_z hX d_Mo_layTable_120 ?_
                refine G_iload_n hX 2 rfl rfl d_Mo_layTable_121 ?_
                refine G_if_ne_z hX (tgt := 129) d_Mo_layTable_122 rfl (by omega) (fun c218 => ?_) (fun c219 => by exfalso; omega)
                refine G_iload_n hX 2 rfl rfl d_Mo_layTable_129 ?_
                refine G_bipush hX (by decide) d_Mo_layTable_130 ?_
                refine G_icmp_ge_z hX (tgt := 141) d_Mo_layTable_132 rfl (by omega) (fun c220 => ?_) (fun c221 => by exfalso; omega)
                refine G_iload_n hX 2 rfl rfl d_Mo_layTable_141 ?_
                refine G_sipush hX (by decide) d_Mo_layTable_142 ?_
                refine G_icmp_ge_z hX (tgt := 174) d_Mo_layTable_145 rfl (by omega) (fun c222 => ?_) (fun c223 => by exfalso; omega)
                refine G_iload_n hX 2 rfl rfl d_Mo_layTable_174 ?_
                refine G_sipush hX (by decide) d_Mo_layTable_175 ?_
                refine G_icmp_ge_z hX (tgt := 189) d_Mo_layTable_178 rfl (by omega) (fun c224 => by exfalso; omega) (fun c225 => ?_)
                refine G_iload_n hX 0 rfl rfl d_Mo_layTable_181 ?_
                refine G_iconst hX d_Mo_layTable_182 ?_
                refine G_idiv_z hX (by omega) d_Mo_layTable_183 ?_
                refine G_iconst hX d_Mo_layTable_184 ?_
                refine G_iadd_z hX d_Mo_layTable_185 ?_
                refine G_goto hX (tgt := 209) d_Mo_layTable_186 rfl ?_
                refine F_iast hX d_Mo_layTable_209 81 (by decide) h215 (by omega) (fun f226 h227 k228 => ?_)
                refine G_aload_n hX 1 rfl rfl d_Mo_layTable_210 ?_
                have h229 : f226 61 = mob F := (k228 61 (by decide)).trans h217
                refine M_get hX fg_Mo_139 d_Mo_layTable_211 h229 (by decide) (hmk 35 81 (by decide)) ?_
                refine G_sipush hX (by decide) d_Mo_layTable_214 ?_
                refine G_iload_n hX 2 rfl rfl d_Mo_layTable_217 ?_
                refine G_iadd_z hX d_Mo_layTable_218 ?_
                refine G_iload_n hX 2 rfl rfl d_Mo_layTable_219 ?_
                refine G_sipush hX (by decide) d_Mo_layTable_220 ?_
                refine G_icmp_ge_z hX (tgt := 230) d_Mo_layTable_223 rfl (by omega) (fun c230 => ?_) (fun c231 => by exfalso; omega)
                refine G_iload_n hX 2 rfl rfl d_Mo_layTable_230 ?_
                refine G_sipush hX (by decide) d_Mo_layTable_231 ?_
                refine G_icmp_ge_z hX (tgt := 245) d_Mo_layTable_234 rfl (by omega) (fun c232 => by exfalso; omega) (fun c233 => ?_)
                refine G_iload_n hX 0 rfl rfl d_Mo_layTable_237 ?_
                refine G_iconst hX d_Mo_layTable_238 ?_
                refine G_irem_z hX (by omega) d_Mo_layTable_239 ?_
                refine G_iconst hX d_Mo_layTable_240 ?_
                refine G_iadd_z hX d_Mo_layTable_241 ?_
                refine G_goto hX (tgt := 257) d_Mo_layTable_242 rfl ?_
                refine F_iast hX d_Mo_layTable_257 81 (by decide) h227 (by omega) (fun f234 h235 k236 => ?_)
                refine G_aload_n hX 1 rfl rfl d_Mo_layTable_258 ?_
                have h237 : f234 61 = mob F := (k236 61 (by decide)).trans h229
                refine M_get hX fg_Mo_139 d_Mo_layTable_259 h237 (by decide) (hmk 35 81 (by decide)) ?_
                refine G_sipush hX (by decide) d_Mo_layTable_262 ?_
                refine G_iload_n hX 2 rfl rfl d_Mo_layTable_265 ?_
                refine G_iadd_z hX d_Mo_layTable_266 ?_
                refine G_iload_n hX 2 rfl rfl d_Mo_layTable_267 ?_
                refine G_bipush hX (by decide) d_Mo_layTable_268 ?_
                refine G_icmp_ge_z hX (tgt := 277) d_Mo_layTable_270 rfl (by omega) (fun c238 => ?_) (fun c239 => by exfalso; omega)
                refine G_iload_n hX 2 rfl rfl d_Mo_layTable_277 ?_
                refine G_sipush hX (by decide) d_Mo_layTable_278 ?_
                refine G_icmp_ge_z hX (tgt := 294) d_Mo_layTable_281 rfl (by omega) (fun c240 => ?_) (fun c241 => by exfalso; omega)
                refine G_iload_n hX 2 rfl rfl d_Mo_layTable_294 ?_
                refine G_sipush hX (by decide) d_Mo_layTable_295 ?_
                refine G_icmp_ge_z hX (tgt := 305) d_Mo_layTable_298 rfl (by omega) (fun c242 => by exfalso; omega) (fun c243 => ?_)
                refine G_iconst hX d_Mo_layTable_301 ?_
                refine G_goto hX (tgt := 310) d_Mo_layTable_302 rfl ?_
                refine F_iast hX d_Mo_layTable_310 81 (by decide) h235 (by omega) (fun f244 h245 k246 => ?_)
                refine G_aload_n hX 1 rfl rfl d_Mo_layTable_311 ?_
                have h247 : f244 61 = mob F := (k246 61 (by decide)).trans h237
                refine M_get hX fg_Mo_139 d_Mo_layTable_312 h247 (by decide) (hmk 35 81 (by decide)) ?_
                refine G_sipush hX (by decide) d_Mo_layTable_315 ?_
                refine G_iload_n hX 2 rfl rfl d_Mo_layTable_318 ?_
                refine G_iadd_z hX d_Mo_layTable_319 ?_
                refine G_iload_n hX 2 rfl rfl d_Mo_layTable_320 ?_
                refine G_sipush hX (by decide) d_Mo_layTable_321 ?_
                refine G_icmp_lt_z hX (tgt := 334) d_Mo_layTable_324 rfl (by omega) (fun c248 => by exfalso; omega) (fun c249 => ?_)
                refine G_iload_n hX 2 rfl rfl d_Mo_layTable_327 ?_
                refine G_sipush hX (by decide) d_Mo_layTable_328 ?_
                refine G_icmp_le_z hX (tgt := 338) d_Mo_layTable_331 rfl (by omega) (fun c250 => ?_) (fun c251 => by exfalso; omega)
                refine G_iload_n hX 2 rfl rfl d_Mo_layTable_338 ?_
                refine G_sipush hX (by decide) d_Mo_layTable_339 ?_
                refine G_icmp_ge_z hX (tgt := 356) d_Mo_layTable_342 rfl (by omega) (fun c252 => by exfalso; omega) (fun c253 => ?_)
                refine G_iload_n hX 2 rfl rfl d_Mo_layTable_345 ?_
                refine G_sipush hX (by decide) d_Mo_layTable_346 ?_
                refine G_isub_z hX d_Mo_layTable_349 ?_
                refine G_bipush hX (by decide) d_Mo_layTable_350 ?_
                refine G_idiv_z hX (by omega) d_Mo_layTable_352 ?_
                refine G_goto hX (tgt := 366) d_Mo_layTable_353 rfl ?_
                refine F_iast hX d_Mo_layTable_366 81 (by decide) h245 (by omega) (fun f254 h255 k256 => ?_)
                refine G_iinc_z hX (lv' := [(1, .int (zI (i + 1))), (2, .int (zI ((i - 163) % 12))), (0, .ref (eA E 61))]) 2 rfl (by decide) rfl d_Mo_layTable_367 ?_
                refine G_goto hX (tgt := 24) d_Mo_layTable_370 rfl ?_
                refine G_loc (lv' := [(0, .ref (eA E 61)), (1, .int (zI (i + 1)))]) [2, 0] rfl ?_
                exact ih13 (i + 1) (uz (uz (uz (uz (uz (uz ob2 i 1) (256 + i) 3) (512 + i) ((((i - 163) % 12) / 3) + 1)) (768 + i) ((((i - 163) % 12) % 3) + 4)) (1024 + i) 0) (1280 + i) ((i - 163) / 12)) f254 (by omega) (by omega) (ltI_s hl (by omega) (by unfold st0; (repeat (first | omega | split))) (by unfold st1; (repeat (first | omega | split))) (by unfold st2; (repeat (first | omega | split))) (by unfold st3; (repeat (first | omega | split))) (by unfold st4; (repeat (first | omega | split))) (by unfold st5; (repeat (first | omega | split)))) h255 (Fr.tr (Fr.tr (Fr.tr (Fr.tr (Fr.tr (Fr.tr (Fr.tr Fr.rf k11 (by decide)) k208 (by decide)) k216 (by decide)) k228 (by decide)) k236 (by decide)) k246 (by decide)) k256 (by decide))
              · skip
                refine G_aload_n hX 0 rfl rfl d_Mo_layTable_31 ?_
                have h257 : f10 61 = mob F := (k11 61 (by decide)).trans ((k3 61 (by decide)).trans hMo)
                refine M_get hX fg_Mo_139 d_Mo_layTable_32 h257 (by decide) (hmk 35 81 (by decide)) ?_
                refine G_iload_n hX 1 rfl rfl d_Mo_layTable_35 ?_
                refine G_iload_n hX 1 rfl rfl d_Mo_layTable_36 ?_
                refine G_if_ne_z hX (tgt := 44) d_Mo_layTable_37 rfl (by omega) (fun c258 => ?_) (fun c259 => by exfalso; omega)
                refine G_iload_n hX 1 rfl rfl d_Mo_layTable_44 ?_
                refine G_bipush hX (by decide) d_Mo_layTable_45 ?_
                refine G_icmp_lt_z hX (tgt := 64) d_Mo_layTable_47 rfl (by omega) (fun c260 => by exfalso; omega) (fun c261 => ?_)
                refine G_iload_n hX 1 rfl rfl d_Mo_layTable_50 ?_
                refine G_sipush hX (by decide) d_Mo_layTable_51 ?_
                refine G_icmp_le_z hX (tgt := 68) d_Mo_layTable_54 rfl (by omega) (fun c262 => by exfalso; omega) (fun c263 => ?_)
                refine G_iload_n hX 1 rfl rfl d_Mo_layTable_57 ?_
                refine G_sipush hX (by decide) d_Mo_layTable_58 ?_
                refine G_icmp_ge_z hX (tgt := 68) d_Mo_layTable_61 rfl (by omega) (fun c264 => by exfalso; omega) (fun c265 => ?_)
                refine G_iconst hX d_Mo_layTable_64 ?_
                refine G_goto hX (tgt := 69) d_Mo_layTable_65 rfl ?_
                refine F_iast hX d_Mo_layTable_69 81 (by decide) h14 (by omega) (fun f266 h267 k268 => ?_)
                refine G_aload_n hX 0 rfl rfl d_Mo_layTable_70 ?_
                have h269 : f266 61 = mob F := (k268 61 (by decide)).trans h257
                refine M_get hX fg_Mo_139 d_Mo_layTable_71 h269 (by decide) (hmk 35 81 (by decide)) ?_
                refine G_sipush hX (by decide) d_Mo_layTable_74 ?_
                refine G_iload_n hX 1 rfl rfl d_Mo_layTable_77 ?_
                refine G_iadd_z hX d_Mo_layTable_78 ?_
                refine G_iload_n hX 1 rfl rfl d_Mo_layTable_79 ?_
                refine G_sipush hX (by decide) d_Mo_layTable_80 ?_
                refine G_icmp_ge_z hX (tgt := 90) d_Mo_layTable_83 rfl (by omega) (fun c270 => ?_) (fun c271 => by exfalso; omega)
                refine G_iload_n hX 1 rfl rfl d_Mo_layTable_90 ?_
                refine G_sipush hX (by decide) d_Mo_layTable_91 ?_
                refine G_icmp_ge_z hX (tgt := 101) d_Mo_layTable_94 rfl (by omega) (fun c272 => by exfalso; omega) (fun c273 => ?_)
                refine G_iconst hX d_Mo_layTable_97 ?_
                refine G_goto hX (tgt := 102) d_Mo_layTable_98 rfl ?_
                refine F_iast hX d_Mo_layTable_102 81 (by decide) h267 (by omega) (fun f274 h275 k276 => ?_)
                refine G_iload_n hX 1 rfl rfl d_Mo_layTable_103 ?_
                refine G_sipush hX (by decide) d_Mo_layTable_104 ?_
                refine G_isub_z hX d_Mo_layTable_107 ?_
                refine G_bipush hX (by decide) d_Mo_layTable_108 ?_
                refine G_irem_z hX (by omega) d_Mo_layTable_110 ?_
                refine G_istore_n hX (lv' := [(2, .int (zI ((i - 163) % 12))), (0, .ref (eA E 61)), (1, .int (zI i))]) rfl (by decide) rfl d_Mo_layTable_111 ?_
                refine G_aload_n hX 1 rfl rfl d_Mo_layTable_112 ?_
                have h277 : f274 61 = mob F := (k276 61 (by decide)).trans h269
                refine M_get hX fg_Mo_139 d_Mo_layTable_113 h277 (by decide) (hmk 35 81 (by decide)) ?_
                refine G_sipush hX (by decide) d_Mo_layTable_116 ?_
                refine G_iload_n hX 2 rfl rfl d_Mo_layTable_119 ?_
                refine G_iadd_z hX d_Mo_layTable_120 ?_
                refine G_iload_n hX 2 rfl rfl d_Mo_layTable_121 ?_
                refine G_if_ne_z hX (tgt := 129) d_Mo_layTable_122 rfl (by omega) (fun c278 => ?_) (fun c279 => by exfalso; omega)
                refine G_iload_n hX 2 rfl rfl d_Mo_layTable_129 ?_
                refine G_bipush hX (by decide) d_Mo_layTable_130 ?_
                refine G_icmp_ge_z hX (tgt := 141) d_Mo_layTable_132 rfl (by omega) (fun c280 => ?_) (fun c281 => by exfalso; omega)
                refine G_iload_n hX 2 rfl rfl d_Mo_layTable_141 ?_
                refine G_sipush hX (by decide) d_Mo_layTable_142 ?_
                refine G_icmp_ge_z hX (tgt := 174) d_Mo_layTable_145 rfl (by omega) (fun c282 => ?_) (fun c283 => by exfalso; omega)
                refine G_iload_n hX 2 rfl rfl d_Mo_layTable_174 ?_
                refine G_sipush hX (by decide) d_Mo_layTable_175 ?_
                refine G_icmp_ge_z hX (tgt := 189) d_Mo_layTable_178 rfl (by omega) (fun c284 => ?_) (fun c285 => by exfalso; omega)
                refine G_iload_n hX 2 rfl rfl d_Mo_layTable_189 ?_
                refine G_sipush hX (by decide) d_Mo_layTable_190 ?_
                refine G_icmp_ge_z hX (tgt := 208) d_Mo_layTable_193 rfl (by omega) (fun c286 => by exfalso; omega) (fun c287 => ?_)
                refine G_iload_n hX 2 rfl rfl d_Mo_layTable_196 ?_
                refine G_sipush hX (by decide) d_Mo_layTable_197 ?_
                refine G_isub_z hX d_Mo_layTable_200 ?_
                refine G_iconst hX d_Mo_layTable_201 ?_
                refine G_irem_z hX (by omega) d_Mo_layTable_202 ?_
                refine G_iconst hX d_Mo_layTable_203 ?_
                refine G_iadd_z hX d_Mo_layTable_204 ?_
                refine G_goto hX (tgt := 209) d_Mo_layTable_205 rfl ?_
                refine F_iast hX d_Mo_layTable_209 81 (by decide) h275 (by omega) (fun f288 h289 k290 => ?_)
                refine G_aload_n hX 1 rfl rfl d_Mo_layTable_210 ?_
                have h291 : f288 61 = mob F := (k290 61 (by decide)).trans h277
                refine M_get hX fg_Mo_139 d_Mo_layTable_211 h291 (by decide) (hmk 35 81 (by decide)) ?_
                refine G_sipush hX (by decide) d_Mo_layTable_214 ?_
                refine G_iload_n hX 2 rfl rfl d_Mo_layTable_217 ?_
                refine G_iadd_z hX d_Mo_layTable_218 ?_
                refine G_iload_n hX 2 rfl rfl d_Mo_layTable_219 ?_
                refine G_sipush hX (by decide) d_Mo_layTable_220 ?_
                refine G_icmp_ge_z hX (tgt := 230) d_Mo_layTable_223 rfl (by omega) (fun c292 => ?_) (fun c293 => by exfalso; omega)
                refine G_iload_n hX 2 rfl rfl d_Mo_layTable_230 ?_
                refine G_sipush hX (by decide) d_Mo_layTable_231 ?_
                refine G_icmp_ge_z hX (tgt := 245) d_Mo_layTable_234 rfl (by omega) (fun c294 => ?_) (fun c295 => by exfalso; omega)
                refine G_iload_n hX 2 rfl rfl d_Mo_layTable_245 ?_
                refine G_sipush hX (by decide) d_Mo_layTable_246 ?_
                refine G_icmp_ge_z hX (tgt := 256) d_Mo_layTable_249 rfl (by omega) (fun c296 => by exfalso; omega) (fun c297 => ?_)
                refine G_iconst hX d_Mo_layTable_252 ?_
                refine G_goto hX (tgt := 257) d_Mo_layTable_253 rfl ?_
                refine F_iast hX d_Mo_layTable_257 81 (by decide) h289 (by omega) (fun f298 h299 k300 => ?_)
                refine G_aload_n hX 1 rfl rfl d_Mo_layTable_258 ?_
                have h301 : f298 61 = mob F := (k300 61 (by decide)).trans h291
                refine M_get hX fg_Mo_139 d_Mo_layTable_259 h301 (by decide) (hmk 35 81 (by decide)) ?_
                refine G_sipush hX (by decide) d_Mo_layTable_262 ?_
                refine G_iload_n hX 2 rfl rfl d_Mo_layTable_265 ?_
                refine G_iadd_z hX d_Mo_layTable_266 ?_
                refine G_iload_n hX 2 rfl rfl d_Mo_layTable_267 ?_
                refine G_bipush hX (by decide) d_Mo_layTable_268 ?_
                refine G_icmp_ge_z hX (tgt := 277) d_Mo_layTable_270 rfl (by omega) (fun c302 => ?_) (fun c303 => by exfalso; omega)
                refine G_iload_n hX 2 rfl rfl d_Mo_layTable_277 ?_
                refine G_sipush hX (by decide) d_Mo_layTable_278 ?_
                refine G_icmp_ge_z hX (tgt := 294) d_Mo_layTable_281 rfl (by omega) (fun c304 => ?_) (fun c305 => by exfalso; omega)
                refine G_iload_n hX 2 rfl rfl d_Mo_layTable_294 ?_
                refine G_sipush hX (by decide) d_Mo_layTable_295 ?_
                refine G_icmp_ge_z hX (tgt := 305) d_Mo_layTable_298 rfl (by omega) (fun c306 => by exfalso; omega) (fun c307 => ?_)
                refine G_iconst hX d_Mo_layTable_301 ?_
                refine G_goto hX (tgt := 310) d_Mo_layTable_302 rfl ?_
                refine F_iast hX d_Mo_layTable_310 81 (by decide) h299 (by omega) (fun f308 h309 k310 => ?_)
                refine G_aload_n hX 1 rfl rfl d_Mo_layTable_311 ?_
                have h311 : f308 61 = mob F := (k310 61 (by decide)).trans h301
                refine M_get hX fg_Mo_139 d_Mo_layTable_312 h311 (by decide) (hmk 35 81 (by decide)) ?_
                refine G_sipush hX (by decide) d_Mo_layTable_315 ?_
                refine G_iload_n hX 2 rfl rfl d_Mo_layTable_318 ?_
                refine G_iadd_z hX d_Mo_layTable_319 ?_
                refine G_iload_n hX 2 rfl rfl d_Mo_layTable_320 ?_
                refine G_sipush hX (by decide) d_Mo_layTable_321 ?_
                refine G_icmp_lt_z hX (tgt := 334) d_Mo_layTable_324 rfl (by omega) (fun c312 => by exfalso; omega) (fun c313 => ?_)
                refine G_iload_n hX 2 rfl rfl d_Mo_layTable_327 ?_
                refine G_sipush hX (by decide) d_Mo_layTable_328 ?_
                refine G_icmp_le_z hX (tgt := 338) d_Mo_layTable_331 rfl (by omega) (fun c314 => ?_) (fun c315 => by exfalso; omega)
                refine G_iload_n hX 2 rfl rfl d_Mo_layTable_338 ?_
                refine G_sipush hX (by decide) d_Mo_layTable_339 ?_
                refine G_icmp_ge_z hX (tgt := 356) d_Mo_layTable_342 rfl (by omega) (fun c316 => ?_) (fun c317 => by exfalso; omega)
                refine G_bipush hX (by decide) d_Mo_layTable_356 ?_
                refine G_iload_n hX 2 rfl rfl d_Mo_layTable_358 ?_
                refine G_sipush hX (by decide) d_Mo_layTable_359 ?_
                refine G_isub_z hX d_Mo_layTable_362 ?_
                refine G_iconst hX d_Mo_layTable_363 ?_
                refine G_idiv_z hX (by omega) d_Mo_layTable_364 ?_
                refine G_iadd_z hX d_Mo_layTable_365 ?_
                refine F_iast hX d_Mo_layTable_366 81 (by decide) h309 (by omega) (fun f318 h319 k320 => ?_)
                refine G_iinc_z hX (lv' := [(1, .int (zI (i + 1))), (2, .int (zI ((i - 163) % 12))), (0, .ref (eA E 61))]) 2 rfl (by decide) rfl d_Mo_layTable_367 ?_
                refine G_goto hX (tgt := 24) d_Mo_layTable_370 rfl ?_
                refine G_loc (lv' := [(0, .ref (eA E 61)), (1, .int (zI (i + 1)))]) [2, 0] rfl ?_
                exact ih13 (i + 1) (uz (uz (uz (uz (uz (uz ob2 i 1) (256 + i) 3) (512 + i) (((i - 235) % 4) + 1)) (768 + i) 4) (1024 + i) 0) (1280 + i) (6 + ((i - 235) / 4))) f318 (by omega) (by omega) (ltI_s hl (by omega) (by unfold st0; (repeat (first | omega | split))) (by unfold st1; (repeat (first | omega | split))) (by unfold st2; (repeat (first | omega | split))) (by unfold st3; (repeat (first | omega | split))) (by unfold st4; (repeat (first | omega | split))) (by unfold st5; (repeat (first | omega | split)))) h319 (Fr.tr (Fr.tr (Fr.tr (Fr.tr (Fr.tr (Fr.tr (Fr.tr Fr.rf k11 (by decide)) k268 (by decide)) k276 (by decide)) k290 (by decide)) k300 (by decide)) k310 (by decide)) k320 (by decide))
              · skip
                refine G_aload_n hX 0 rfl rfl d_Mo_layTable_31 ?_
                have h321 : f10 61 = mob F := (k11 61 (by decide)).trans ((k3 61 (by decide)).trans hMo)
                refine M_get hX fg_Mo_139 d_Mo_layTable_32 h321 (by decide) (hmk 35 81 (by decide)) ?_
                refine G_iload_n hX 1 rfl rfl d_Mo_layTable_35 ?_
                refine G_iload_n hX 1 rfl rfl d_Mo_layTable_36 ?_
                refine G_if_ne_z hX (tgt := 44) d_Mo_layTable_37 rfl (by omega) (fun c322 => ?_) (fun c323 => by exfalso; omega)
                refine G_iload_n hX 1 rfl rfl d_Mo_layTable_44 ?_
                refine G_bipush hX (by decide) d_Mo_layTable_45 ?_
                refine G_icmp_lt_z hX (tgt := 64) d_Mo_layTable_47 rfl (by omega) (fun c324 => by exfalso; omega) (fun c325 => ?_)
                refine G_iload_n hX 1 rfl rfl d_Mo_layTable_50 ?_
                refine G_sipush hX (by decide) d_Mo_layTable_51 ?_
                refine G_icmp_le_z hX (tgt := 68) d_Mo_layTable_54 rfl (by omega) (fun c326 => by exfalso; omega) (fun c327 => ?_)
                refine G_iload_n hX 1 rfl rfl d_Mo_layTable_57 ?_
                refine G_sipush hX (by decide) d_Mo_layTable_58 ?_
                refine G_icmp_ge_z hX (tgt := 68) d_Mo_layTable_61 rfl (by omega) (fun c328 => ?_) (fun c329 => by exfalso; omega)
                refine G_iconst hX d_Mo_layTable_68 ?_
                refine F_iast hX d_Mo_layTable_69 81 (by decide) h14 (by omega) (fun f330 h331 k332 => ?_)
                refine G_aload_n hX 0 rfl rfl d_Mo_layTable_70 ?_
                have h333 : f330 61 = mob F := (k332 61 (by decide)).trans h321
                refine M_get hX fg_Mo_139 d_Mo_layTable_71 h333 (by decide) (hmk 35 81 (by decide)) ?_
                refine G_sipush hX (by decide) d_Mo_layTable_74 ?_
                refine G_iload_n hX 1 rfl rfl d_Mo_layTable_77 ?_
                refine G_iadd_z hX d_Mo_layTable_78 ?_
                refine G_iload_n hX 1 rfl rfl d_Mo_layTable_79 ?_
                refine G_sipush hX (by decide) d_Mo_layTable_80 ?_
                refine G_icmp_ge_z hX (tgt := 90) d_Mo_layTable_83 rfl (by omega) (fun c334 => ?_) (fun c335 => by exfalso; omega)
                refine G_iload_n hX 1 rfl rfl d_Mo_layTable_90 ?_
                refine G_sipush hX (by decide) d_Mo_layTable_91 ?_
                refine G_icmp_ge_z hX (tgt := 101) d_Mo_layTable_94 rfl (by omega) (fun c336 => ?_) (fun c337 => by exfalso; omega)
                refine G_iconst hX d_Mo_layTable_101 ?_
                refine F_iast hX d_Mo_layTable_102 81 (by decide) h331 (by omega) (fun f338 h339 k340 => ?_)
                refine G_iload_n hX 1 rfl rfl d_Mo_layTable_103 ?_
                refine G_sipush hX (by decide) d_Mo_layTable_104 ?_
                refine G_isub_z hX d_Mo_layTable_107 ?_
                refine G_bipush hX (by decide) d_Mo_layTable_108 ?_
                refine G_irem_z hX (by omega) d_Mo_layTable_110 ?_
                refine G_istore_n hX (lv' := [(2, .int (zI ((i - 163) % 12))), (0, .ref (eA E 61)), (1, .int (zI i))]) rfl (by decide) rfl d_Mo_layTable_111 ?_
                refine G_aload_n hX 1 rfl rfl d_Mo_layTable_112 ?_
                have h341 : f338 61 = mob F := (k340 61 (by decide)).trans h333
                refine M_get hX fg_Mo_139 d_Mo_layTable_113 h341 (by decide) (hmk 35 81 (by decide)) ?_
                refine G_sipush hX (by decide) d_Mo_layTable_116 ?_
                refine G_iload_n hX 2 rfl rfl d_Mo_layTable_119 ?_
                refine G_iadd_z hX d_Mo_layTable_120 ?_
                refine G_iload_n hX 2 rfl rfl d_Mo_layTable_121 ?_
                refine G_if_ne_z hX (tgt := 129) d_Mo_layTable_122 rfl (by omega) (fun c342 => ?_) (fun c343 => by exfalso; omega)
                refine G_iload_n hX 2 rfl rfl d_Mo_layTable_129 ?_
                refine G_bipush hX (by decide) d_Mo_layTable_130 ?_
                refine G_icmp_ge_z hX (tgt := 141) d_Mo_layTable_132 rfl (by omega) (fun c344 => ?_) (fun c345 => by exfalso; omega)
                refine G_iload_n hX 2 rfl rfl d_Mo_layTable_141 ?_
                refine G_sipush hX (by decide) d_Mo_layTable_142 ?_
                refine G_icmp_ge_z hX (tgt := 174) d_Mo_layTable_145 rfl (by omega) (fun c346 => ?_) (fun c347 => by exfalso; omega)
                refine G_iload_n hX 2 rfl rfl d_Mo_layTable_174 ?_
                refine G_sipush hX (by decide) d_Mo_layTable_175 ?_
                refine G_icmp_ge_z hX (tgt := 189) d_Mo_layTable_178 rfl (by omega) (fun c348 => ?_) (fun c349 => by exfalso; omega)
                refine G_iload_n hX 2 rfl rfl d_Mo_layTable_189 ?_
                refine G_sipush hX (by decide) d_Mo_layTable_190 ?_
                refine G_icmp_ge_z hX (tgt := 208) d_Mo_layTable_193 rfl (by omega) (fun c350 => ?_) (fun c351 => by exfalso; omega)
                refine G_iconst hX d_Mo_layTable_208 ?_
                refine F_iast hX d_Mo_layTable_209 81 (by decide) h339 (by omega) (fun f352 h353 k354 => ?_)
                refine G_aload_n hX 1 rfl rfl d_Mo_layTable_210 ?_
                have h355 : f352 61 = mob F := (k354 61 (by decide)).trans h341
                refine M_get hX fg_Mo_139 d_Mo_layTable_211 h355 (by decide) (hmk 35 81 (by decide)) ?_
                refine G_sipush hX (by decide) d_Mo_layTable_214 ?_
                refine G_iload_n hX 2 rfl rfl d_Mo_layTable_217 ?_
                refine G_iadd_z hX d_Mo_layTable_218 ?_
                refine G_iload_n hX 2 rfl rfl d_Mo_layTable_219 ?_
                refine G_sipush hX (by decide) d_Mo_layTable_220 ?_
                refine G_icmp_ge_z hX (tgt := 230) d_Mo_layTable_223 rfl (by omega) (fun c356 => ?_) (fun c357 => by exfalso; omega)
                refine G_iload_n hX 2 rfl rfl d_Mo_layTable_230 ?_
                refine G_sipush hX (by decide) d_Mo_layTable_231 ?_
                refine G_icmp_ge_z hX (tgt := 245) d_Mo_layTable_234 rfl (by omega) (fun c358 => ?_) (fun c359 => by exfalso; omega)
                refine G_iload_n hX 2 rfl rfl d_Mo_layTable_245 ?_
                refine G_sipush hX (by decide) d_Mo_layTable_246 ?_
                refine G_icmp_ge_z hX (tgt := 256) d_Mo_layTable_249 rfl (by omega) (fun c360 => ?_) (fun c361 => by exfalso; omega)
                refine G_iconst hX d_Mo_layTable_256 ?_
                refine F_iast hX d_Mo_layTable_257 81 (by decide) h353 (by omega) (fun f362 h363 k364 => ?_)
                refine G_aload_n hX 1 rfl rfl d_Mo_layTable_258 ?_
                have h365 : f362 61 = mob F := (k364 61 (by decide)).trans h355
                refine M_get hX fg_Mo_139 d_Mo_layTable_259 h365 (by decide) (hmk 35 81 (by decide)) ?_
                refine G_sipush hX (by decide) d_Mo_layTable_262 ?_
                refine G_iload_n hX 2 rfl rfl d_Mo_layTable_265 ?_
                refine G_iadd_z hX d_Mo_layTable_266 ?_
                refine G_iload_n hX 2 rfl rfl d_Mo_layTable_267 ?_
                refine G_bipush hX (by decide) d_Mo_layTable_268 ?_
                refine G_icmp_ge_z hX (tgt := 277) d_Mo_layTable_270 rfl (by omega) (fun c366 => ?_) (fun c367 => by exfalso; omega)
                refine G_iload_n hX 2 rfl rfl d_Mo_layTable_277 ?_
                refine G_sipush hX (by decide) d_Mo_layTable_278 ?_
                refine G_icmp_ge_z hX (tgt := 294) d_Mo_layTable_281 rfl (by omega) (fun c368 => ?_) (fun c369 => by exfalso; omega)
                refine G_iload_n hX 2 rfl rfl d_Mo_layTable_294 ?_
                refine G_sipush hX (by decide) d_Mo_layTable_295 ?_
                refine G_icmp_ge_z hX (tgt := 305) d_Mo_layTable_298 rfl (by omega) (fun c370 => ?_) (fun c371 => by exfalso; omega)
                refine G_iload_n hX 2 rfl rfl d_Mo_layTable_305 ?_
                refine G_sipush hX (by decide) d_Mo_layTable_306 ?_
                refine G_isub_z hX d_Mo_layTable_309 ?_
                refine F_iast hX d_Mo_layTable_310 81 (by decide) h363 (by omega) (fun f372 h373 k374 => ?_)
                refine G_aload_n hX 1 rfl rfl d_Mo_layTable_311 ?_
                have h375 : f372 61 = mob F := (k374 61 (by decide)).trans h365
                refine M_get hX fg_Mo_139 d_Mo_layTable_312 h375 (by decide) (hmk 35 81 (by decide)) ?_
                refine G_sipush hX (by decide) d_Mo_layTable_315 ?_
                refine G_iload_n hX 2 rfl rfl d_Mo_layTable_318 ?_
                refine G_iadd_z hX d_Mo_layTable_319 ?_
                refine G_iload_n hX 2 rfl rfl d_Mo_layTable_320 ?_
                refine G_sipush hX (by decide) d_Mo_layTable_321 ?_
                refine G_icmp_lt_z hX (tgt := 334) d_Mo_layTable_324 rfl (by omega) (fun c376 => by exfalso; omega) (fun c377 => ?_)
                refine G_iload_n hX 2 rfl rfl d_Mo_layTable_327 ?_
                refine G_sipush hX (by decide) d_Mo_layTable_328 ?_
                refine G_icmp_le_z hX (tgt := 338) d_Mo_layTable_331 rfl (by omega) (fun c378 => by exfalso; omega) (fun c379 => ?_)
                refine G_iconst hX d_Mo_layTable_334 ?_
                refine G_goto hX (tgt := 366) d_Mo_layTable_335 rfl ?_
                refine F_iast hX d_Mo_layTable_366 81 (by decide) h373 (by omega) (fun f380 h381 k382 => ?_)
                refine G_iinc_z hX (lv' := [(1, .int (zI (i + 1))), (2, .int (zI ((i - 163) % 12))), (0, .ref (eA E 61))]) 2 rfl (by decide) rfl d_Mo_layTable_367 ?_
                refine G_goto hX (tgt := 24) d_Mo_layTable_370 rfl ?_
                refine G_loc (lv' := [(0, .ref (eA E 61)), (1, .int (zI (i + 1)))]) [2, 0] rfl ?_
                exact ih13 (i + 1) (uz (uz (uz (uz (uz (uz ob2 i 3) (256 + i) 1) (512 + i) 4) (768 + i) 1) (1024 + i) (i - 247)) (1280 + i) 0) f380 (by omega) (by omega) (ltI_s hl (by omega) (by unfold st0; (repeat (first | omega | split))) (by unfold st1; (repeat (first | omega | split))) (by unfold st2; (repeat (first | omega | split))) (by unfold st3; (repeat (first | omega | split))) (by unfold st4; (repeat (first | omega | split))) (by unfold st5; (repeat (first | omega | split)))) h381 (Fr.tr (Fr.tr (Fr.tr (Fr.tr (Fr.tr (Fr.tr (Fr.tr Fr.rf k11 (by decide)) k332 (by decide)) k340 (by decide)) k354 (by decide)) k364 (by decide)) k374 (by decide)) k382 (by decide))
        refine G_loc (lv' := [(0, .ref (eA E 61)), (1, .int (zI 0))]) [1, 0] rfl ?_
        exact loop9 (_ + 1) 0 ob1 f2 (Nat.lt_succ_self _) (by omega) (fun j h1 h2 => by omega) h6 Fr.rf
      · skip
        refine G_aload_n hX 0 rfl rfl d_Mo_layTable_9 ?_
        have h383 : f2 61 = mob F := (k3 61 (by decide)).trans hMo
        refine M_get hX fg_Mo_139 d_Mo_layTable_10 h383 (by decide) (hmk 35 81 (by decide)) ?_
        refine G_iload_n hX 1 rfl rfl d_Mo_layTable_13 ?_
        refine G_iconst hX d_Mo_layTable_14 ?_
        refine F_iast hX d_Mo_layTable_15 81 (by decide) h6 (by omega) (fun f384 h385 k386 => ?_)
        refine G_iinc_z hX (lv' := [(1, .int (zI (u + 1))), (0, .ref (eA E 61))]) 1 rfl (by decide) rfl d_Mo_layTable_16 ?_
        refine G_goto hX (tgt := 2) d_Mo_layTable_19 rfl ?_
        refine G_loc (lv' := [(0, .ref (eA E 61)), (1, .int (zI (u + 1)))]) [1, 0] rfl ?_
        exact ih5 (u + 1) (uz ob1 u 0) f384 (by omega) (by omega) h385 (Fr.tr (Fr.tr Fr.rf k3 (by decide)) k386 (by decide))
  refine G_loc (lv' := [(0, .ref (eA E 61)), (1, .int (zI 0))]) [1, 0] rfl ?_
  exact loop1 (_ + 1) 0 ob f (Nat.lt_succ_self _) (by omega) hc81 Fr.rf
theorem c_Mo_useTable0 (E : EV) (f : Nat → va_E) (F : Nat → Value) (ob : Int → Int) (tb : Int → Int) (hMo : f 61 = mob F) (hmk : moK E F) (hc81 : f 81 = iz E 1536 ob) (hc80 : f 80 = iz E 1536 tb) : CF yn_Mo_useTable cd_Mo_useTable 3 none 0 E [.ref (eA E 61), .int (zI 0)] f (fun r f' => r = none ∧ ∃ (tb' : Int → Int), f' 80 = iz E 1536 tb' ∧ (∀ x, 0 ≤ x → x < 1536 → tb' x = ob x) ∧ Fr [80] f f') := by
  refine CF.of (by decide +kernel) (Nat.le_of_ble_eq_true rfl) fun X hX hE => ?_
  have hX : Ok E X "DeltaFerryModel" "useTable" cd_Mo_useTable 3 none (rl 0) := hX
  refine G_cast (lv' := [(0, .ref (eA E 61)), (1, .int (zI 0))]) ?_ rfl rfl rfl rfl
  refine G_iconst hX d_Mo_useTable_0 ?_
  refine G_istore_n hX (lv' := [(2, .int (zI 0)), (0, .ref (eA E 61)), (1, .int (zI 0))]) rfl (by decide) rfl d_Mo_useTable_1 ?_
  have loop1 : ∀ (q : Nat) (i : Int) (tb1 : Int → Int) (f2 : Nat → va_E), (1536 - i).toNat < q → (0 ≤ i ∧ i ≤ 1536) → (∀ x, 0 ≤ x → x < i → tb1 x = ob x) → f2 80 = iz E 1536 tb1 → Fr [80] f f2 → G E X 0 0 2 [(0, .ref (eA E 61)), (1, .int (zI 0)), (2, .int (zI i))] [] (wl E f2) := by
    intro q
    induction q with
    | zero => intro i tb1 f2 hms4; exact absurd hms4 (Nat.not_lt_zero _)
    | succ q ih5 =>
      intro i tb1 f2 hms4 hi ht h6 k3
      refine G_iload_n hX 2 rfl rfl d_Mo_useTable_2 ?_
      refine G_sipush hX (by decide) d_Mo_useTable_3 ?_
      refine G_icmp_ge_z hX (tgt := 40) d_Mo_useTable_6 rfl (by omega) (fun c7 => ?_) (fun c8 => ?_)
      · skip
        obtain rfl : i = 1536 := by omega
        exact F_vret hX hE d_Mo_useTable_40 ⟨rfl, _, h6, ht, (Fr.tr Fr.rf k3 (by decide))⟩
      · skip
        refine G_aload_n hX 0 rfl rfl d_Mo_useTable_9 ?_
        have h9 : f2 61 = mob F := (k3 61 (by decide)).trans hMo
        refine M_get hX fg_Mo_136 d_Mo_useTable_10 h9 (by decide) (hmk 33 80 (by decide)) ?_
        refine G_iload_n hX 2 rfl rfl d_Mo_useTable_13 ?_
        refine G_iload_n hX 1 rfl rfl d_Mo_useTable_14 ?_
        refine G_if_eq_z hX (tgt := 27) d_Mo_useTable_15 rfl (by omega) (fun c10 => ?_) (fun c11 => by exfalso; omega)
        refine G_aload_n hX 0 rfl rfl d_Mo_useTable_27 ?_
        refine M_get hX fg_Mo_139 d_Mo_useTable_28 h9 (by decide) (hmk 35 81 (by decide)) ?_
        refine G_iload_n hX 2 rfl rfl d_Mo_useTable_31 ?_
        have h12 : f2 81 = iz E 1536 ob := (k3 81 (by decide)).trans hc81
        refine F_iald hX d_Mo_useTable_32 81 (by decide) h12 (by omega) ?_
        refine F_iast hX d_Mo_useTable_33 80 (by decide) h6 (by omega) (fun f13 h14 k15 => ?_)
        refine G_iinc_z hX (lv' := [(2, .int (zI (i + 1))), (0, .ref (eA E 61)), (1, .int (zI 0))]) 2 rfl (by decide) rfl d_Mo_useTable_34 ?_
        refine G_goto hX (tgt := 2) d_Mo_useTable_37 rfl ?_
        refine G_loc (lv' := [(0, .ref (eA E 61)), (1, .int (zI 0)), (2, .int (zI (i + 1)))]) [1, 2, 0] rfl ?_
        exact ih5 (i + 1) (uz tb1 i (ob i)) f13 (by omega) (by omega) (fun x h1 h2 => by by_cases q9 : x = i; (rw [q9]; exact if_pos rfl); exact (if_neg q9).trans (ht x h1 (by omega))) h14 (Fr.tr (Fr.tr Fr.rf k3 (by decide)) k15 (by decide))
  refine G_loc (lv' := [(0, .ref (eA E 61)), (1, .int (zI 0)), (2, .int (zI 0))]) [1, 2, 0] rfl ?_
  exact loop1 (_ + 1) 0 tb f (Nat.lt_succ_self _) (by omega) (fun x h1 h2 => by omega) hc80 Fr.rf
theorem c_Mo_useTable1 (E : EV) (f : Nat → va_E) (F : Nat → Value) (o : Int → Int) (tb : Int → Int) (hMo : f 61 = mob F) (hmk : moK E F) (hc82 : f 82 = iz E 1536 o) (hc80 : f 80 = iz E 1536 tb) : CF yn_Mo_useTable cd_Mo_useTable 3 none 0 E [.ref (eA E 61), .int (zI 1)] f (fun r f' => r = none ∧ ∃ (tb' : Int → Int), f' 80 = iz E 1536 tb' ∧ (∀ x, 0 ≤ x → x < 1536 → tb' x = o x) ∧ Fr [80] f f') := by
  refine CF.of (by decide +kernel) (Nat.le_of_ble_eq_true rfl) fun X hX hE => ?_
  have hX : Ok E X "DeltaFerryModel" "useTable" cd_Mo_useTable 3 none (rl 0) := hX
  refine G_cast (lv' := [(0, .ref (eA E 61)), (1, .int (zI 1))]) ?_ rfl rfl rfl rfl
  refine G_iconst hX d_Mo_useTable_0 ?_
  refine G_istore_n hX (lv' := [(2, .int (zI 0)), (0, .ref (eA E 61)), (1, .int (zI 1))]) rfl (by decide) rfl d_Mo_useTable_1 ?_
  have loop1 : ∀ (q : Nat) (i : Int) (tb1 : Int → Int) (f2 : Nat → va_E), (1536 - i).toNat < q → (0 ≤ i ∧ i ≤ 1536) → (∀ x, 0 ≤ x → x < i → tb1 x = o x) → f2 80 = iz E 1536 tb1 → Fr [80] f f2 → G E X 0 0 2 [(0, .ref (eA E 61)), (1, .int (zI 1)), (2, .int (zI i))] [] (wl E f2) := by
    intro q
    induction q with
    | zero => intro i tb1 f2 hms4; exact absurd hms4 (Nat.not_lt_zero _)
    | succ q ih5 =>
      intro i tb1 f2 hms4 hi ht h6 k3
      refine G_iload_n hX 2 rfl rfl d_Mo_useTable_2 ?_
      refine G_sipush hX (by decide) d_Mo_useTable_3 ?_
      refine G_icmp_ge_z hX (tgt := 40) d_Mo_useTable_6 rfl (by omega) (fun c7 => ?_) (fun c8 => ?_)
      · skip
        obtain rfl : i = 1536 := by omega
        exact F_vret hX hE d_Mo_useTable_40 ⟨rfl, _, h6, ht, (Fr.tr Fr.rf k3 (by decide))⟩
      · skip
        refine G_aload_n hX 0 rfl rfl d_Mo_useTable_9 ?_
        have h9 : f2 61 = mob F := (k3 61 (by decide)).trans hMo
        refine M_get hX fg_Mo_136 d_Mo_useTable_10 h9 (by decide) (hmk 33 80 (by decide)) ?_
        refine G_iload_n hX 2 rfl rfl d_Mo_useTable_13 ?_
        refine G_iload_n hX 1 rfl rfl d_Mo_useTable_14 ?_
        refine G_if_eq_z hX (tgt := 27) d_Mo_useTable_15 rfl (by omega) (fun c10 => by exfalso; omega) (fun c11 => ?_)
        refine G_aload_n hX 0 rfl rfl d_Mo_useTable_18 ?_
        refine M_get hX fg_Mo_142 d_Mo_useTable_19 h9 (by decide) (hmk 38 82 (by decide)) ?_
        refine G_iload_n hX 2 rfl rfl d_Mo_useTable_22 ?_
        have h12 : f2 82 = iz E 1536 o := (k3 82 (by decide)).trans hc82
        refine F_iald hX d_Mo_useTable_23 82 (by decide) h12 (by omega) ?_
        refine G_goto hX (tgt := 33) d_Mo_useTable_24 rfl ?_
        refine F_iast hX d_Mo_useTable_33 80 (by decide) h6 (by omega) (fun f13 h14 k15 => ?_)
        refine G_iinc_z hX (lv' := [(2, .int (zI (i + 1))), (0, .ref (eA E 61)), (1, .int (zI 1))]) 2 rfl (by decide) rfl d_Mo_useTable_34 ?_
        refine G_goto hX (tgt := 2) d_Mo_useTable_37 rfl ?_
        refine G_loc (lv' := [(0, .ref (eA E 61)), (1, .int (zI 1)), (2, .int (zI (i + 1)))]) [1, 2, 0] rfl ?_
        exact ih5 (i + 1) (uz tb1 i (o i)) f13 (by omega) (by omega) (fun x h1 h2 => by by_cases q9 : x = i; (rw [q9]; exact if_pos rfl); exact (if_neg q9).trans (ht x h1 (by omega))) h14 (Fr.tr (Fr.tr Fr.rf k3 (by decide)) k15 (by decide))
  refine G_loc (lv' := [(0, .ref (eA E 61)), (1, .int (zI 1)), (2, .int (zI 0))]) [1, 2, 0] rfl ?_
  exact loop1 (_ + 1) 0 tb f (Nat.lt_succ_self _) (by omega) (fun x h1 h2 => by omega) hc80 Fr.rf
theorem c_Mo_readHead_ok (E : EV) (f : Nat → va_E) (F : Nat → Value) (p : Int) (e : Int) (b : Int → Int) (g : Int → Int) (sE : Int) (hMo : f 61 = mob F) (hmk : moK E F) (hF30 : F 30 = .int (zI p)) (hF31 : F 31 = .int (zI e)) (hF32 : F 32 = .int (zI 0)) (hc63 : f 63 = iz E 1600 b) (hG : isB g) (hgb : ∀ i, 0 ≤ i → i < sE → b (600 + i) = g i) (hp : 0 ≤ p ∧ p ≤ e ∧ e ≤ sE ∧ sE ≤ 700) (hb : p + 4 ≤ e ∧ g p = 214 ∧ g (p + 1) = 195 ∧ g (p + 2) = 196 ∧ g (p + 3) = 0) : CF yn_Mo_readHead cd_Mo_readHead 3 none 2 E [.ref (eA E 61)] f (fun r f' => r = none ∧ ∃ (F' : Nat → Value), f' 61 = mob F' ∧ F' 30 = .int (zI (p + 4)) ∧ FrF [30] F F' ∧ Fr [61] f f') := by
  refine CF.of (by decide +kernel) (Nat.le_of_ble_eq_true rfl) fun X hX hE => ?_
  have hX : Ok E X "DeltaFerryModel" "readHead" cd_Mo_readHead 3 none (rl 2) := hX
  refine G_cast (lv' := [(0, .ref (eA E 61))]) ?_ rfl rfl rfl rfl
  refine G_iconst hX d_Mo_readHead_0 ?_
  refine G_istore_n hX (lv' := [(1, .int (zI 0)), (0, .ref (eA E 61))]) rfl (by decide) rfl d_Mo_readHead_1 ?_
  refine G_iload_n hX 0 rfl rfl d_Mo_readHead_2 ?_
  refine G_iconst hX d_Mo_readHead_3 ?_
  refine G_icmp_ge_z hX (tgt := 61) d_Mo_readHead_4 rfl (by omega) (fun c1 => by exfalso; omega) (fun c2 => ?_)
  refine G_aload_n hX 1 rfl rfl d_Mo_readHead_7 ?_
  refine F_callV hX (st := []) (c_Mo_readByte_ok E f F p e b g sE hMo hmk hF30 hF31 hF32 hc63 hG hgb (by omega)) cm_Mo_readByte im_Mo_readByte se_Mo_readByte rfl ml_Mo_357 d_Mo_readHead_8 (by decide) hMo rfl rfl (Nat.le_of_ble_eq_true rfl) (by decide) ?_
  rintro _ f3 ⟨rfl, F6, h7, h8, k9, k10⟩
  refine G_cast (st' := [.int (zI (g p))]) ?_ rfl rfl rfl rfl
  refine G_top (show zI (g p) = zI 214 from congrArg zI ((congrArg g (by omega)).trans hb.2.1)) ?_
  refine G_istore_n hX (lv' := [(2, .int (zI 214)), (1, .int (zI 0)), (0, .ref (eA E 61))]) rfl (by decide) rfl d_Mo_readHead_11 ?_
  refine G_iload_n hX 0 rfl rfl d_Mo_readHead_12 ?_
  refine G_iload_n hX 1 rfl rfl d_Mo_readHead_13 ?_
  refine G_if_ne_z hX (tgt := 23) d_Mo_readHead_14 rfl (by omega) (fun c11 => by exfalso; omega) (fun c12 => ?_)
  refine G_sipush hX (by decide) d_Mo_readHead_17 ?_
  refine G_goto hX (tgt := 46) d_Mo_readHead_20 rfl ?_
  refine G_icmp_eq_z hX (tgt := 55) d_Mo_readHead_46 rfl (by omega) (fun c13 => ?_) (fun c14 => by exfalso; omega)
  refine G_iinc_z hX (lv' := [(1, .int (zI (0 + 1))), (2, .int (zI 214)), (0, .ref (eA E 61))]) 1 rfl (by decide) rfl d_Mo_readHead_55 ?_
  refine G_goto hX (tgt := 2) d_Mo_readHead_58 rfl ?_
  refine G_iload_n hX 0 rfl rfl d_Mo_readHead_2 ?_
  refine G_iconst hX d_Mo_readHead_3 ?_
  refine G_icmp_ge_z hX (tgt := 61) d_Mo_readHead_4 rfl (by omega) (fun c15 => by exfalso; omega) (fun c16 => ?_)
  refine G_aload_n hX 2 rfl rfl d_Mo_readHead_7 ?_
  have h17 : F6 31 = .int (zI e) := (k9 31 (by decide)).trans hF31
  have h18 : F6 32 = .int (zI 0) := (k9 32 (by decide)).trans hF32
  have h19 : f3 63 = iz E 1600 b := (k10 63 (by decide)).trans hc63
  refine F_callV hX (st := []) (c_Mo_readByte_ok E f3 F6 (p + 1) e b g sE h7 (moK_fr hmk (FrF.tr (FrF.rf (S := [30])) k9 (by decide)) (by decide)) h8 h17 h18 h19 hG hgb (by omega)) cm_Mo_readByte im_Mo_readByte se_Mo_readByte rfl ml_Mo_357 d_Mo_readHead_8 (by decide) h7 rfl rfl (Nat.le_of_ble_eq_true rfl) (by decide) ?_
  rintro _ f20 ⟨rfl, F23, h24, h25, k26, k27⟩
  refine G_cast (st' := [.int (zI (g (p + 1)))]) ?_ rfl rfl rfl rfl
  refine G_top (show zI (g (p + 1)) = zI 195 from congrArg zI ((congrArg g (by omega)).trans hb.2.2.1)) ?_
  refine G_istore_n hX (lv' := [(2, .int (zI 195)), (1, .int (zI (0 + 1))), (0, .ref (eA E 61))]) rfl (by decide) rfl d_Mo_readHead_11 ?_
  refine G_iload_n hX 0 rfl rfl d_Mo_readHead_12 ?_
  refine G_iload_n hX 1 rfl rfl d_Mo_readHead_13 ?_
  refine G_if_ne_z hX (tgt := 23) d_Mo_readHead_14 rfl (by omega) (fun c28 => ?_) (fun c29 => by exfalso; omega)
  refine G_iload_n hX 1 rfl rfl d_Mo_readHead_23 ?_
  refine G_iconst hX d_Mo_readHead_24 ?_
  refine G_icmp_ne_z hX (tgt := 34) d_Mo_readHead_25 rfl (by omega) (fun c30 => by exfalso; omega) (fun c31 => ?_)
  refine G_sipush hX (by decide) d_Mo_readHead_28 ?_
  refine G_goto hX (tgt := 46) d_Mo_readHead_31 rfl ?_
  refine G_icmp_eq_z hX (tgt := 55) d_Mo_readHead_46 rfl (by omega) (fun c32 => ?_) (fun c33 => by exfalso; omega)
  refine G_iinc_z hX (lv' := [(1, .int (zI ((0 + 1) + 1))), (2, .int (zI 195)), (0, .ref (eA E 61))]) 1 rfl (by decide) rfl d_Mo_readHead_55 ?_
  refine G_goto hX (tgt := 2) d_Mo_readHead_58 rfl ?_
  refine G_iload_n hX 0 rfl rfl d_Mo_readHead_2 ?_
  refine G_iconst hX d_Mo_readHead_3 ?_
  refine G_icmp_ge_z hX (tgt := 61) d_Mo_readHead_4 rfl (by omega) (fun c34 => by exfalso; omega) (fun c35 => ?_)
  refine G_aload_n hX 2 rfl rfl d_Mo_readHead_7 ?_
  have h36 : F23 31 = .int (zI e) := (k26 31 (by decide)).trans h17
  have h37 : F23 32 = .int (zI 0) := (k26 32 (by decide)).trans h18
  have h38 : f20 63 = iz E 1600 b := (k27 63 (by decide)).trans h19
  refine F_callV hX (st := []) (c_Mo_readByte_ok E f20 F23 ((p + 1) + 1) e b g sE h24 (moK_fr hmk (FrF.tr (FrF.tr (FrF.rf (S := [30])) k9 (by decide)) k26 (by decide)) (by decide)) h25 h36 h37 h38 hG hgb (by omega)) cm_Mo_readByte im_Mo_readByte se_Mo_readByte rfl ml_Mo_357 d_Mo_readHead_8 (by decide) h24 rfl rfl (Nat.le_of_ble_eq_true rfl) (by decide) ?_
  rintro _ f39 ⟨rfl, F42, h43, h44, k45, k46⟩
  refine G_cast (st' := [.int (zI (g ((p + 1) + 1)))]) ?_ rfl rfl rfl rfl
  refine G_top (show zI (g ((p + 1) + 1)) = zI 196 from congrArg zI ((congrArg g (by omega)).trans hb.2.2.2.1)) ?_
  refine G_istore_n hX (lv' := [(2, .int (zI 196)), (1, .int (zI ((0 + 1) + 1))), (0, .ref (eA E 61))]) rfl (by decide) rfl d_Mo_readHead_11 ?_
  refine G_iload_n hX 0 rfl rfl d_Mo_readHead_12 ?_
  refine G_iload_n hX 1 rfl rfl d_Mo_readHead_13 ?_
  refine G_if_ne_z hX (tgt := 23) d_Mo_readHead_14 rfl (by omega) (fun c47 => ?_) (fun c48 => by exfalso; omega)
  refine G_iload_n hX 1 rfl rfl d_Mo_readHead_23 ?_
  refine G_iconst hX d_Mo_readHead_24 ?_
  refine G_icmp_ne_z hX (tgt := 34) d_Mo_readHead_25 rfl (by omega) (fun c49 => ?_) (fun c50 => by exfalso; omega)
  refine G_iload_n hX 1 rfl rfl d_Mo_readHead_34 ?_
  refine G_iconst hX d_Mo_readHead_35 ?_
  refine G_icmp_ne_z hX (tgt := 45) d_Mo_readHead_36 rfl (by omega) (fun c51 => by exfalso; omega) (fun c52 => ?_)
  refine G_sipush hX (by decide) d_Mo_readHead_39 ?_
  refine G_goto hX (tgt := 46) d_Mo_readHead_42 rfl ?_
  refine G_icmp_eq_z hX (tgt := 55) d_Mo_readHead_46 rfl (by omega) (fun c53 => ?_) (fun c54 => by exfalso; omega)
  refine G_iinc_z hX (lv' := [(1, .int (zI (((0 + 1) + 1) + 1))), (2, .int (zI 196)), (0, .ref (eA E 61))]) 1 rfl (by decide) rfl d_Mo_readHead_55 ?_
  refine G_goto hX (tgt := 2) d_Mo_readHead_58 rfl ?_
  refine G_iload_n hX 0 rfl rfl d_Mo_readHead_2 ?_
  refine G_iconst hX d_Mo_readHead_3 ?_
  refine G_icmp_ge_z hX (tgt := 61) d_Mo_readHead_4 rfl (by omega) (fun c55 => by exfalso; omega) (fun c56 => ?_)
  refine G_aload_n hX 2 rfl rfl d_Mo_readHead_7 ?_
  have h57 : F42 31 = .int (zI e) := (k45 31 (by decide)).trans h36
  have h58 : F42 32 = .int (zI 0) := (k45 32 (by decide)).trans h37
  have h59 : f39 63 = iz E 1600 b := (k46 63 (by decide)).trans h38
  refine F_callV hX (st := []) (c_Mo_readByte_ok E f39 F42 (((p + 1) + 1) + 1) e b g sE h43 (moK_fr hmk (FrF.tr (FrF.tr (FrF.tr (FrF.rf (S := [30])) k9 (by decide)) k26 (by decide)) k45 (by decide)) (by decide)) h44 h57 h58 h59 hG hgb (by omega)) cm_Mo_readByte im_Mo_readByte se_Mo_readByte rfl ml_Mo_357 d_Mo_readHead_8 (by decide) h43 rfl rfl (Nat.le_of_ble_eq_true rfl) (by decide) ?_
  rintro _ f60 ⟨rfl, F63, h64, h65, k66, k67⟩
  refine G_cast (st' := [.int (zI (g (((p + 1) + 1) + 1)))]) ?_ rfl rfl rfl rfl
  refine G_top (show zI (g (((p + 1) + 1) + 1)) = zI 0 from congrArg zI ((congrArg g (by omega)).trans hb.2.2.2.2)) ?_
  refine G_istore_n hX (lv' := [(2, .int (zI 0)), (1, .int (zI (((0 + 1) + 1) + 1))), (0, .ref (eA E 61))]) rfl (by decide) rfl d_Mo_readHead_11 ?_
  refine G_iload_n hX 0 rfl rfl d_Mo_readHead_12 ?_
  refine G_iload_n hX 1 rfl rfl d_Mo_readHead_13 ?_
  refine G_if_ne_z hX (tgt := 23) d_Mo_readHead_14 rfl (by omega) (fun c68 => ?_) (fun c69 => by exfalso; omega)
  refine G_iload_n hX 1 rfl rfl d_Mo_readHead_23 ?_
  refine G_iconst hX d_Mo_readHead_24 ?_
  refine G_icmp_ne_z hX (tgt := 34) d_Mo_readHead_25 rfl (by omega) (fun c70 => ?_) (fun c71 => by exfalso; omega)
  refine G_iload_n hX 1 rfl rfl d_Mo_readHead_34 ?_
  refine G_iconst hX d_Mo_readHead_35 ?_
  refine G_icmp_ne_z hX (tgt := 45) d_Mo_readHead_36 rfl (by omega) (fun c72 => ?_) (fun c73 => by exfalso; omega)
  refine G_iconst hX d_Mo_readHead_45 ?_
  refine G_icmp_eq_z hX (tgt := 55) d_Mo_readHead_46 rfl (by omega) (fun c74 => ?_) (fun c75 => by exfalso; omega)
  refine G_iinc_z hX (lv' := [(1, .int (zI ((((0 + 1) + 1) + 1) + 1))), (2, .int (zI 0)), (0, .ref (eA E 61))]) 1 rfl (by decide) rfl d_Mo_readHead_55 ?_
  refine G_goto hX (tgt := 2) d_Mo_readHead_58 rfl ?_
  refine G_iload_n hX 0 rfl rfl d_Mo_readHead_2 ?_
  refine G_iconst hX d_Mo_readHead_3 ?_
  refine G_icmp_ge_z hX (tgt := 61) d_Mo_readHead_4 rfl (by omega) (fun c76 => ?_) (fun c77 => by exfalso; omega)
  exact F_vret hX hE d_Mo_readHead_61 ⟨rfl, F63, h64, (h65.trans (congrArg (fun z => Value.int (zI z)) (by omega))), (FrF.tr (FrF.tr (FrF.tr (FrF.tr FrF.rf k9 (by decide)) k26 (by decide)) k45 (by decide)) k66 (by decide)), (Fr.tr (Fr.tr (Fr.tr (Fr.tr Fr.rf k10 (by decide)) k27 (by decide)) k46 (by decide)) k67 (by decide))⟩
theorem c_Mo_readHead_no (E : EV) (f : Nat → va_E) (F : Nat → Value) (p : Int) (e : Int) (b : Int → Int) (g : Int → Int) (sE : Int) (hMo : f 61 = mob F) (hmk : moK E F) (hF30 : F 30 = .int (zI p)) (hF31 : F 31 = .int (zI e)) (hF32 : F 32 = .int (zI 0)) (hc63 : f 63 = iz E 1600 b) (hG : isB g) (hgb : ∀ i, 0 ≤ i → i < sE → b (600 + i) = g i) (hp : 0 ≤ p ∧ p ≤ e ∧ e ≤ sE ∧ sE ≤ 700) (hb : ¬ (p + 4 ≤ e ∧ g p = 214 ∧ g (p + 1) = 195 ∧ g (p + 2) = 196 ∧ g (p + 3) = 0)) : CF yn_Mo_readHead cd_Mo_readHead 3 none 2 E [.ref (eA E 61)] f (fun r f' => r = none ∧ ∃ (F' : Nat → Value) (p' : Int), f' 61 = mob F' ∧ F' 30 = .int (zI p') ∧ F' 32 = .int (zI (-2)) ∧ FrF [30, 32] F F' ∧ (0 ≤ p' ∧ p' ≤ 700) ∧ Fr [61] f f') := by
  refine CF.of (by decide +kernel) (Nat.le_of_ble_eq_true rfl) fun X hX hE => ?_
  have hX : Ok E X "DeltaFerryModel" "readHead" cd_Mo_readHead 3 none (rl 2) := hX
  refine G_cast (lv' := [(0, .ref (eA E 61))]) ?_ rfl rfl rfl rfl
  refine G_iconst hX d_Mo_readHead_0 ?_
  refine G_istore_n hX (lv' := [(1, .int (zI 0)), (0, .ref (eA E 61))]) rfl (by decide) rfl d_Mo_readHead_1 ?_
  refine G_iload_n hX 0 rfl rfl d_Mo_readHead_2 ?_
  refine G_iconst hX d_Mo_readHead_3 ?_
  refine G_icmp_ge_z hX (tgt := 61) d_Mo_readHead_4 rfl (by omega) (fun c1 => by exfalso; omega) (fun c2 => ?_)
  by_cases hx0 : p < e
  · skip
    have hg0 := hG (p)
    refine G_aload_n hX 1 rfl rfl d_Mo_readHead_7 ?_
    refine F_callV hX (st := []) (c_Mo_readByte_ok E f F p e b g sE hMo hmk hF30 hF31 hF32 hc63 hG hgb (by omega)) cm_Mo_readByte im_Mo_readByte se_Mo_readByte rfl ml_Mo_357 d_Mo_readHead_8 (by decide) hMo rfl rfl (Nat.le_of_ble_eq_true rfl) (by decide) ?_
    rintro _ f3 ⟨rfl, F6, h7, h8, k9, k10⟩
    refine G_cast (st' := [.int (zI (g p))]) ?_ rfl rfl rfl rfl
    refine G_top (show zI (g p) = zI (g (p)) from congrArg (fun q => zI (g q)) (by omega)) ?_
    have h11 : F6 30 = .int (zI (p + 1)) := h8.trans (congrArg (fun z => Value.int (zI z)) ((by omega)))
    refine G_istore_n hX (lv' := [(2, .int (zI (g (p)))), (1, .int (zI 0)), (0, .ref (eA E 61))]) rfl (by decide) rfl d_Mo_readHead_11 ?_
    refine G_iload_n hX 0 rfl rfl d_Mo_readHead_12 ?_
    refine G_iload_n hX 1 rfl rfl d_Mo_readHead_13 ?_
    refine G_if_ne_z hX (tgt := 23) d_Mo_readHead_14 rfl (by omega) (fun c12 => by exfalso; omega) (fun c13 => ?_)
    refine G_sipush hX (by decide) d_Mo_readHead_17 ?_
    refine G_goto hX (tgt := 46) d_Mo_readHead_20 rfl ?_
    refine G_icmp_eq_z hX (tgt := 55) d_Mo_readHead_46 rfl (by omega) (fun c14 => ?_) (fun c15 => ?_)
    · skip
      refine G_iinc_z hX (lv' := [(1, .int (zI (0 + 1))), (2, .int (zI (g (p)))), (0, .ref (eA E 61))]) 1 rfl (by decide) rfl d_Mo_readHead_55 ?_
      refine G_goto hX (tgt := 2) d_Mo_readHead_58 rfl ?_
      refine G_iload_n hX 0 rfl rfl d_Mo_readHead_2 ?_
      refine G_iconst hX d_Mo_readHead_3 ?_
      refine G_icmp_ge_z hX (tgt := 61) d_Mo_readHead_4 rfl (by omega) (fun c16 => by exfalso; omega) (fun c17 => ?_)
      have h18 : F6 32 = .int (zI 0) := (k9 32 (by decide)).trans hF32
      by_cases hx1 : p + 1 < e
      · skip
        have hg1 := hG (p + 1)
        refine G_aload_n hX 2 rfl rfl d_Mo_readHead_7 ?_
        have h19 : F6 31 = .int (zI e) := (k9 31 (by decide)).trans hF31
        have h20 : f3 63 = iz E 1600 b := (k10 63 (by decide)).trans hc63
        refine F_callV hX (st := []) (c_Mo_readByte_ok E f3 F6 (p + 1) e b g sE h7 (moK_fr hmk (FrF.tr (FrF.rf (S := [30])) k9 (by decide)) (by decide)) h11 h19 h18 h20 hG hgb (by omega)) cm_Mo_readByte im_Mo_readByte se_Mo_readByte rfl ml_Mo_357 d_Mo_readHead_8 (by decide) h7 rfl rfl (Nat.le_of_ble_eq_true rfl) (by decide) ?_
        rintro _ f21 ⟨rfl, F24, h25, h26, k27, k28⟩
        refine G_cast (st' := [.int (zI (g (p + 1)))]) ?_ rfl rfl rfl rfl
        refine G_top (show zI (g (p + 1)) = zI (g (p + 1)) from congrArg (fun q => zI (g q)) (by omega)) ?_
        have h29 : F24 30 = .int (zI (p + 2)) := h26.trans (congrArg (fun z => Value.int (zI z)) ((by omega)))
        refine G_istore_n hX (lv' := [(2, .int (zI (g (p + 1)))), (1, .int (zI (0 + 1))), (0, .ref (eA E 61))]) rfl (by decide) rfl d_Mo_readHead_11 ?_
        refine G_iload_n hX 0 rfl rfl d_Mo_readHead_12 ?_
        refine G_iload_n hX 1 rfl rfl d_Mo_readHead_13 ?_
        refine G_if_ne_z hX (tgt := 23) d_Mo_readHead_14 rfl (by omega) (fun c30 => ?_) (fun c31 => by exfalso; omega)
        refine G_iload_n hX 1 rfl rfl d_Mo_readHead_23 ?_
        refine G_iconst hX d_Mo_readHead_24 ?_
        refine G_icmp_ne_z hX (tgt := 34) d_Mo_readHead_25 rfl (by omega) (fun c32 => by exfalso; omega) (fun c33 => ?_)
        refine G_sipush hX (by decide) d_Mo_readHead_28 ?_
        refine G_goto hX (tgt := 46) d_Mo_readHead_31 rfl ?_
        refine G_icmp_eq_z hX (tgt := 55) d_Mo_readHead_46 rfl (by omega) (fun c34 => ?_) (fun c35 => ?_)
        · skip
          refine G_iinc_z hX (lv' := [(1, .int (zI ((0 + 1) + 1))), (2, .int (zI (g (p + 1)))), (0, .ref (eA E 61))]) 1 rfl (by decide) rfl d_Mo_readHead_55 ?_
          refine G_goto hX (tgt := 2) d_Mo_readHead_58 rfl ?_
          refine G_iload_n hX 0 rfl rfl d_Mo_readHead_2 ?_
          refine G_iconst hX d_Mo_readHead_3 ?_
          refine G_icmp_ge_z hX (tgt := 61) d_Mo_readHead_4 rfl (by omega) (fun c36 => by exfalso; omega) (fun c37 => ?_)
          have h38 : F24 32 = .int (zI 0) := (k27 32 (by decide)).trans h18
          by_cases hx2 : p + 2 < e
          · skip
            have hg2 := hG (p + 2)
            refine G_aload_n hX 2 rfl rfl d_Mo_readHead_7 ?_
            have h39 : F24 31 = .int (zI e) := (k27 31 (by decide)).trans h19
            have h40 : f21 63 = iz E 1600 b := (k28 63 (by decide)).trans h20
            refine F_callV hX (st := []) (c_Mo_readByte_ok E f21 F24 (p + 2) e b g sE h25 (moK_fr hmk (FrF.tr (FrF.tr (FrF.rf (S := [30])) k9 (by decide)) k27 (by decide)) (by decide)) h29 h39 h38 h40 hG hgb (by omega)) cm_Mo_readByte im_Mo_readByte se_Mo_readByte rfl ml_Mo_357 d_Mo_readHead_8 (by decide) h25 rfl rfl (Nat.le_of_ble_eq_true rfl) (by decide) ?_
            rintro _ f41 ⟨rfl, F44, h45, h46, k47, k48⟩
            refine G_cast (st' := [.int (zI (g (p + 2)))]) ?_ rfl rfl rfl rfl
            refine G_top (show zI (g (p + 2)) = zI (g (p + 2)) from congrArg (fun q => zI (g q)) (by omega)) ?_
            have h49 : F44 30 = .int (zI (p + 3)) := h46.trans (congrArg (fun z => Value.int (zI z)) ((by omega)))
            refine G_istore_n hX (lv' := [(2, .int (zI (g (p + 2)))), (1, .int (zI ((0 + 1) + 1))), (0, .ref (eA E 61))]) rfl (by decide) rfl d_Mo_readHead_11 ?_
            refine G_iload_n hX 0 rfl rfl d_Mo_readHead_12 ?_
            refine G_iload_n hX 1 rfl rfl d_Mo_readHead_13 ?_
            refine G_if_ne_z hX (tgt := 23) d_Mo_readHead_14 rfl (by omega) (fun c50 => ?_) (fun c51 => by exfalso; omega)
            refine G_iload_n hX 1 rfl rfl d_Mo_readHead_23 ?_
            refine G_iconst hX d_Mo_readHead_24 ?_
            refine G_icmp_ne_z hX (tgt := 34) d_Mo_readHead_25 rfl (by omega) (fun c52 => ?_) (fun c53 => by exfalso; omega)
            refine G_iload_n hX 1 rfl rfl d_Mo_readHead_34 ?_
            refine G_iconst hX d_Mo_readHead_35 ?_
            refine G_icmp_ne_z hX (tgt := 45) d_Mo_readHead_36 rfl (by omega) (fun c54 => by exfalso; omega) (fun c55 => ?_)
            refine G_sipush hX (by decide) d_Mo_readHead_39 ?_
            refine G_goto hX (tgt := 46) d_Mo_readHead_42 rfl ?_
            refine G_icmp_eq_z hX (tgt := 55) d_Mo_readHead_46 rfl (by omega) (fun c56 => ?_) (fun c57 => ?_)
            · skip
              refine G_iinc_z hX (lv' := [(1, .int (zI (((0 + 1) + 1) + 1))), (2, .int (zI (g (p + 2)))), (0, .ref (eA E 61))]) 1 rfl (by decide) rfl d_Mo_readHead_55 ?_
              refine G_goto hX (tgt := 2) d_Mo_readHead_58 rfl ?_
              refine G_iload_n hX 0 rfl rfl d_Mo_readHead_2 ?_
              refine G_iconst hX d_Mo_readHead_3 ?_
              refine G_icmp_ge_z hX (tgt := 61) d_Mo_readHead_4 rfl (by omega) (fun c58 => by exfalso; omega) (fun c59 => ?_)
              have h60 : F44 32 = .int (zI 0) := (k47 32 (by decide)).trans h38
              by_cases hx3 : p + 3 < e
              · skip
                have hg3 := hG (p + 3)
                refine G_aload_n hX 2 rfl rfl d_Mo_readHead_7 ?_
                have h61 : F44 31 = .int (zI e) := (k47 31 (by decide)).trans h39
                have h62 : f41 63 = iz E 1600 b := (k48 63 (by decide)).trans h40
                refine F_callV hX (st := []) (c_Mo_readByte_ok E f41 F44 (p + 3) e b g sE h45 (moK_fr hmk (FrF.tr (FrF.tr (FrF.tr (FrF.rf (S := [30])) k9 (by decide)) k27 (by decide)) k47 (by decide)) (by decide)) h49 h61 h60 h62 hG hgb (by omega)) cm_Mo_readByte im_Mo_readByte se_Mo_readByte rfl ml_Mo_357 d_Mo_readHead_8 (by decide) h45 rfl rfl (Nat.le_of_ble_eq_true rfl) (by decide) ?_
                rintro _ f63 ⟨rfl, F66, h67, h68, k69, k70⟩
                refine G_cast (st' := [.int (zI (g (p + 3)))]) ?_ rfl rfl rfl rfl
                refine G_top (show zI (g (p + 3)) = zI (g (p + 3)) from congrArg (fun q => zI (g q)) (by omega)) ?_
                have h71 : F66 30 = .int (zI (p + 4)) := h68.trans (congrArg (fun z => Value.int (zI z)) ((by omega)))
                refine G_istore_n hX (lv' := [(2, .int (zI (g (p + 3)))), (1, .int (zI (((0 + 1) + 1) + 1))), (0, .ref (eA E 61))]) rfl (by decide) rfl d_Mo_readHead_11 ?_
                refine G_iload_n hX 0 rfl rfl d_Mo_readHead_12 ?_
                refine G_iload_n hX 1 rfl rfl d_Mo_readHead_13 ?_
                refine G_if_ne_z hX (tgt := 23) d_Mo_readHead_14 rfl (by omega) (fun c72 => ?_) (fun c73 => by exfalso; omega)
                refine G_iload_n hX 1 rfl rfl d_Mo_readHead_23 ?_
                refine G_iconst hX d_Mo_readHead_24 ?_
                refine G_icmp_ne_z hX (tgt := 34) d_Mo_readHead_25 rfl (by omega) (fun c74 => ?_) (fun c75 => by exfalso; omega)
                refine G_iload_n hX 1 rfl rfl d_Mo_readHead_34 ?_
                refine G_iconst hX d_Mo_readHead_35 ?_
                refine G_icmp_ne_z hX (tgt := 45) d_Mo_readHead_36 rfl (by omega) (fun c76 => ?_) (fun c77 => by exfalso; omega)
                refine G_iconst hX d_Mo_readHead_45 ?_
                refine G_icmp_eq_z hX (tgt := 55) d_Mo_readHead_46 rfl (by omega) (fun c78 => ?_) (fun c79 => ?_)
                · skip
                  refine G_iinc_z hX (lv' := [(1, .int (zI ((((0 + 1) + 1) + 1) + 1))), (2, .int (zI (g (p + 3)))), (0, .ref (eA E 61))]) 1 rfl (by decide) rfl d_Mo_readHead_55 ?_
                  refine G_goto hX (tgt := 2) d_Mo_readHead_58 rfl ?_
                  refine G_iload_n hX 0 rfl rfl d_Mo_readHead_2 ?_
                  refine G_iconst hX d_Mo_readHead_3 ?_
                  refine G_icmp_ge_z hX (tgt := 61) d_Mo_readHead_4 rfl (by omega) (fun c80 => ?_) (fun c81 => by exfalso; omega)
                  have h82 : F66 32 = .int (zI 0) := (k69 32 (by decide)).trans h60
                  exact absurd (show p + 4 ≤ e ∧ g p = 214 ∧ g (p + 1) = 195 ∧ g (p + 2) = 196 ∧ g (p + 3) = 0 by omega) hb
                · skip
                  refine G_aload_n hX 2 rfl rfl d_Mo_readHead_49 ?_
                  refine G_bipush hX (by decide) d_Mo_readHead_50 ?_
                  have h83 : F66 32 = .int (zI 0) := (k69 32 (by decide)).trans h60
                  refine F_callV hX (st := []) (c_Mo_refuse E f63 F66 (-2) h67 (moK_fr hmk (FrF.tr (FrF.tr (FrF.tr (FrF.tr (FrF.rf (S := [30])) k9 (by decide)) k27 (by decide)) k47 (by decide)) k69 (by decide)) (by decide)) h83) cm_Mo_refuse im_Mo_refuse se_Mo_refuse rfl ml_Mo_354 d_Mo_readHead_52 (by decide) h67 rfl rfl (Nat.le_of_ble_eq_true rfl) (by decide) ?_
                  rintro _ f84 ⟨rfl, F87, h88, h89, k90, k91⟩
                  refine G_cast (st' := []) ?_ rfl rfl rfl rfl
                  refine G_iinc_z hX (lv' := [(1, .int (zI ((((0 + 1) + 1) + 1) + 1))), (2, .int (zI (g (p + 3)))), (0, .ref (eA E 61))]) 1 rfl (by decide) rfl d_Mo_readHead_55 ?_
                  refine G_goto hX (tgt := 2) d_Mo_readHead_58 rfl ?_
                  refine G_iload_n hX 0 rfl rfl d_Mo_readHead_2 ?_
                  refine G_iconst hX d_Mo_readHead_3 ?_
                  refine G_icmp_ge_z hX (tgt := 61) d_Mo_readHead_4 rfl (by omega) (fun c92 => ?_) (fun c93 => by exfalso; omega)
                  have h94 : F87 30 = .int (zI (p + 4)) := (k90 30 (by decide)).trans h71
                  exact F_vret hX hE d_Mo_readHead_61 ⟨rfl, F87, _, h88, h94, h89, (FrF.tr (FrF.tr (FrF.tr (FrF.tr (FrF.tr FrF.rf k9 (by decide)) k27 (by decide)) k47 (by decide)) k69 (by decide)) k90 (by decide)), (by omega), (Fr.tr (Fr.tr (Fr.tr (Fr.tr (Fr.tr Fr.rf k10 (by decide)) k28 (by decide)) k48 (by decide)) k70 (by decide)) k91 (by decide))⟩
              · skip
                refine G_aload_n hX 2 rfl rfl d_Mo_readHead_7 ?_
                have h95 : F44 31 = .int (zI e) := (k47 31 (by decide)).trans h39
                refine F_callV hX (st := []) (c_Mo_readByte_no E f41 F44 (p + 3) e h45 (moK_fr hmk (FrF.tr (FrF.tr (FrF.tr (FrF.rf (S := [30])) k9 (by decide)) k27 (by decide)) k47 (by decide)) (by decide)) h49 h95 h60 (by omega)) cm_Mo_readByte im_Mo_readByte se_Mo_readByte rfl ml_Mo_357 d_Mo_readHead_8 (by decide) h45 rfl rfl (Nat.le_of_ble_eq_true rfl) (by decide) ?_
                rintro _ f96 ⟨rfl, F99, h100, h101, k102, k103⟩
                refine G_cast (st' := [.int (zI 0)]) ?_ rfl rfl rfl rfl
                refine G_istore_n hX (lv' := [(2, .int (zI 0)), (1, .int (zI (((0 + 1) + 1) + 1))), (0, .ref (eA E 61))]) rfl (by decide) rfl d_Mo_readHead_11 ?_
                refine G_iload_n hX 0 rfl rfl d_Mo_readHead_12 ?_
                refine G_iload_n hX 1 rfl rfl d_Mo_readHead_13 ?_
                refine G_if_ne_z hX (tgt := 23) d_Mo_readHead_14 rfl (by omega) (fun c104 => ?_) (fun c105 => by exfalso; omega)
                refine G_iload_n hX 1 rfl rfl d_Mo_readHead_23 ?_
                refine G_iconst hX d_Mo_readHead_24 ?_
                refine G_icmp_ne_z hX (tgt := 34) d_Mo_readHead_25 rfl (by omega) (fun c106 => ?_) (fun c107 => by exfalso; omega)
                refine G_iload_n hX 1 rfl rfl d_Mo_readHead_34 ?_
                refine G_iconst hX d_Mo_readHead_35 ?_
                refine G_icmp_ne_z hX (tgt := 45) d_Mo_readHead_36 rfl (by omega) (fun c108 => ?_) (fun c109 => by exfalso; omega)
                refine G_iconst hX d_Mo_readHead_45 ?_
                refine G_icmp_eq_z hX (tgt := 55) d_Mo_readHead_46 rfl (by omega) (fun c110 => ?_) (fun c111 => by exfalso; omega)
                refine G_iinc_z hX (lv' := [(1, .int (zI ((((0 + 1) + 1) + 1) + 1))), (2, .int (zI 0)), (0, .ref (eA E 61))]) 1 rfl (by decide) rfl d_Mo_readHead_55 ?_
                refine G_goto hX (tgt := 2) d_Mo_readHead_58 rfl ?_
                refine G_iload_n hX 0 rfl rfl d_Mo_readHead_2 ?_
                refine G_iconst hX d_Mo_readHead_3 ?_
                refine G_icmp_ge_z hX (tgt := 61) d_Mo_readHead_4 rfl (by omega) (fun c112 => ?_) (fun c113 => by exfalso; omega)
                have h114 : F99 30 = .int (zI (p + 3)) := (k102 30 (by decide)).trans h49
                exact F_vret hX hE d_Mo_readHead_61 ⟨rfl, F99, _, h100, h114, h101, (FrF.tr (FrF.tr (FrF.tr (FrF.tr FrF.rf k9 (by decide)) k27 (by decide)) k47 (by decide)) k102 (by decide)), (by omega), (Fr.tr (Fr.tr (Fr.tr (Fr.tr Fr.rf k10 (by decide)) k28 (by decide)) k48 (by decide)) k103 (by decide))⟩
            · skip
              refine G_aload_n hX 2 rfl rfl d_Mo_readHead_49 ?_
              refine G_bipush hX (by decide) d_Mo_readHead_50 ?_
              have h115 : F44 32 = .int (zI 0) := (k47 32 (by decide)).trans h38
              refine F_callV hX (st := []) (c_Mo_refuse E f41 F44 (-2) h45 (moK_fr hmk (FrF.tr (FrF.tr (FrF.tr (FrF.rf (S := [30])) k9 (by decide)) k27 (by decide)) k47 (by decide)) (by decide)) h115) cm_Mo_refuse im_Mo_refuse se_Mo_refuse rfl ml_Mo_354 d_Mo_readHead_52 (by decide) h45 rfl rfl (Nat.le_of_ble_eq_true rfl) (by decide) ?_
              rintro _ f116 ⟨rfl, F119, h120, h121, k122, k123⟩
              refine G_cast (st' := []) ?_ rfl rfl rfl rfl
              refine G_iinc_z hX (lv' := [(1, .int (zI (((0 + 1) + 1) + 1))), (2, .int (zI (g (p + 2)))), (0, .ref (eA E 61))]) 1 rfl (by decide) rfl d_Mo_readHead_55 ?_
              refine G_goto hX (tgt := 2) d_Mo_readHead_58 rfl ?_
              refine G_iload_n hX 0 rfl rfl d_Mo_readHead_2 ?_
              refine G_iconst hX d_Mo_readHead_3 ?_
              refine G_icmp_ge_z hX (tgt := 61) d_Mo_readHead_4 rfl (by omega) (fun c124 => by exfalso; omega) (fun c125 => ?_)
              refine G_aload_n hX 2 rfl rfl d_Mo_readHead_7 ?_
              refine F_callV hX (st := []) (c_Mo_readByte_f E f116 F119 (-2) h120 (moK_fr hmk (FrF.tr (FrF.tr (FrF.tr (FrF.tr (FrF.rf (S := [30, 32])) k9 (by decide)) k27 (by decide)) k47 (by decide)) k122 (by decide)) (by decide)) h121 (by omega)) cm_Mo_readByte im_Mo_readByte se_Mo_readByte rfl ml_Mo_357 d_Mo_readHead_8 (by decide) h120 rfl rfl (Nat.le_of_ble_eq_true rfl) (by decide) ?_
              rintro _ f126 ⟨rfl, F129, h130, h131, k132, k133⟩
              refine G_cast (st' := [.int (zI 0)]) ?_ rfl rfl rfl rfl
              refine G_istore_n hX (lv' := [(2, .int (zI 0)), (1, .int (zI (((0 + 1) + 1) + 1))), (0, .ref (eA E 61))]) rfl (by decide) rfl d_Mo_readHead_11 ?_
              refine G_iload_n hX 0 rfl rfl d_Mo_readHead_12 ?_
              refine G_iload_n hX 1 rfl rfl d_Mo_readHead_13 ?_
              refine G_if_ne_z hX (tgt := 23) d_Mo_readHead_14 rfl (by omega) (fun c134 => ?_) (fun c135 => by exfalso; omega)
              refine G_iload_n hX 1 rfl rfl d_Mo_readHead_23 ?_
              refine G_iconst hX d_Mo_readHead_24 ?_
              refine G_icmp_ne_z hX (tgt := 34) d_Mo_readHead_25 rfl (by omega) (fun c136 => ?_) (fun c137 => by exfalso; omega)
              refine G_iload_n hX 1 rfl rfl d_Mo_readHead_34 ?_
              refine G_iconst hX d_Mo_readHead_35 ?_
              refine G_icmp_ne_z hX (tgt := 45) d_Mo_readHead_36 rfl (by omega) (fun c138 => ?_) (fun c139 => by exfalso; omega)
              refine G_iconst hX d_Mo_readHead_45 ?_
              refine G_icmp_eq_z hX (tgt := 55) d_Mo_readHead_46 rfl (by omega) (fun c140 => ?_) (fun c141 => by exfalso; omega)
              refine G_iinc_z hX (lv' := [(1, .int (zI ((((0 + 1) + 1) + 1) + 1))), (2, .int (zI 0)), (0, .ref (eA E 61))]) 1 rfl (by decide) rfl d_Mo_readHead_55 ?_
              refine G_goto hX (tgt := 2) d_Mo_readHead_58 rfl ?_
              refine G_iload_n hX 0 rfl rfl d_Mo_readHead_2 ?_
              refine G_iconst hX d_Mo_readHead_3 ?_
              refine G_icmp_ge_z hX (tgt := 61) d_Mo_readHead_4 rfl (by omega) (fun c142 => ?_) (fun c143 => by exfalso; omega)
              have h144 : F129 30 = .int (zI (p + 3)) := (k132 30 (by decide)).trans ((k122 30 (by decide)).trans h49)
              exact F_vret hX hE d_Mo_readHead_61 ⟨rfl, F129, _, h130, h144, h131, (FrF.tr (FrF.tr (FrF.tr (FrF.tr (FrF.tr FrF.rf k9 (by decide)) k27 (by decide)) k47 (by decide)) k122 (by decide)) k132 (by decide)), (by omega), (Fr.tr (Fr.tr (Fr.tr (Fr.tr (Fr.tr Fr.rf k10 (by decide)) k28 (by decide)) k48 (by decide)) k123 (by decide)) k133 (by decide))⟩
          · skip
            refine G_aload_n hX 2 rfl rfl d_Mo_readHead_7 ?_
            have h145 : F24 31 = .int (zI e) := (k27 31 (by decide)).trans h19
            refine F_callV hX (st := []) (c_Mo_readByte_no E f21 F24 (p + 2) e h25 (moK_fr hmk (FrF.tr (FrF.tr (FrF.rf (S := [30])) k9 (by decide)) k27 (by decide)) (by decide)) h29 h145 h38 (by omega)) cm_Mo_readByte im_Mo_readByte se_Mo_readByte rfl ml_Mo_357 d_Mo_readHead_8 (by decide) h25 rfl rfl (Nat.le_of_ble_eq_true rfl) (by decide) ?_
            rintro _ f146 ⟨rfl, F149, h150, h151, k152, k153⟩
            refine G_cast (st' := [.int (zI 0)]) ?_ rfl rfl rfl rfl
            refine G_istore_n hX (lv' := [(2, .int (zI 0)), (1, .int (zI ((0 + 1) + 1))), (0, .ref (eA E 61))]) rfl (by decide) rfl d_Mo_readHead_11 ?_
            refine G_iload_n hX 0 rfl rfl d_Mo_readHead_12 ?_
            refine G_iload_n hX 1 rfl rfl d_Mo_readHead_13 ?_
            refine G_if_ne_z hX (tgt := 23) d_Mo_readHead_14 rfl (by omega) (fun c154 => ?_) (fun c155 => by exfalso; omega)
            refine G_iload_n hX 1 rfl rfl d_Mo_readHead_23 ?_
            refine G_iconst hX d_Mo_readHead_24 ?_
            refine G_icmp_ne_z hX (tgt := 34) d_Mo_readHead_25 rfl (by omega) (fun c156 => ?_) (fun c157 => by exfalso; omega)
            refine G_iload_n hX 1 rfl rfl d_Mo_readHead_34 ?_
            refine G_iconst hX d_Mo_readHead_35 ?_
            refine G_icmp_ne_z hX (tgt := 45) d_Mo_readHead_36 rfl (by omega) (fun c158 => by exfalso; omega) (fun c159 => ?_)
            refine G_sipush hX (by decide) d_Mo_readHead_39 ?_
            refine G_goto hX (tgt := 46) d_Mo_readHead_42 rfl ?_
            refine G_icmp_eq_z hX (tgt := 55) d_Mo_readHead_46 rfl (by omega) (fun c160 => by exfalso; omega) (fun c161 => ?_)
            refine G_aload_n hX 2 rfl rfl d_Mo_readHead_49 ?_
            refine G_bipush hX (by decide) d_Mo_readHead_50 ?_
            refine F_callV hX (st := []) (c_Mo_refuse_f E f146 F149 (-2) (-2) h150 (moK_fr hmk (FrF.tr (FrF.tr (FrF.tr (FrF.rf (S := [30, 32])) k9 (by decide)) k27 (by decide)) k152 (by decide)) (by decide)) h151 (by omega)) cm_Mo_refuse im_Mo_refuse se_Mo_refuse rfl ml_Mo_354 d_Mo_readHead_52 (by decide) h150 rfl rfl (Nat.le_of_ble_eq_true rfl) (by decide) ?_
            rintro _ f162 ⟨rfl, F165, h166, h167, k168, k169⟩
            refine G_cast (st' := []) ?_ rfl rfl rfl rfl
            refine G_iinc_z hX (lv' := [(1, .int (zI (((0 + 1) + 1) + 1))), (2, .int (zI 0)), (0, .ref (eA E 61))]) 1 rfl (by decide) rfl d_Mo_readHead_55 ?_
            refine G_goto hX (tgt := 2) d_Mo_readHead_58 rfl ?_
            refine G_iload_n hX 0 rfl rfl d_Mo_readHead_2 ?_
            refine G_iconst hX d_Mo_readHead_3 ?_
            refine G_icmp_ge_z hX (tgt := 61) d_Mo_readHead_4 rfl (by omega) (fun c170 => by exfalso; omega) (fun c171 => ?_)
            refine G_aload_n hX 2 rfl rfl d_Mo_readHead_7 ?_
            refine F_callV hX (st := []) (c_Mo_readByte_f E f162 F165 (-2) h166 (moK_fr hmk (FrF.tr (FrF.tr (FrF.tr (FrF.tr (FrF.rf (S := [30, 32])) k9 (by decide)) k27 (by decide)) k152 (by decide)) k168 (by decide)) (by decide)) h167 (by omega)) cm_Mo_readByte im_Mo_readByte se_Mo_readByte rfl ml_Mo_357 d_Mo_readHead_8 (by decide) h166 rfl rfl (Nat.le_of_ble_eq_true rfl) (by decide) ?_
            rintro _ f172 ⟨rfl, F175, h176, h177, k178, k179⟩
            refine G_cast (st' := [.int (zI 0)]) ?_ rfl rfl rfl rfl
            refine G_istore_n hX (lv' := [(2, .int (zI 0)), (1, .int (zI (((0 + 1) + 1) + 1))), (0, .ref (eA E 61))]) rfl (by decide) rfl d_Mo_readHead_11 ?_
            refine G_iload_n hX 0 rfl rfl d_Mo_readHead_12 ?_
            refine G_iload_n hX 1 rfl rfl d_Mo_readHead_13 ?_
            refine G_if_ne_z hX (tgt := 23) d_Mo_readHead_14 rfl (by omega) (fun c180 => ?_) (fun c181 => by exfalso; omega)
            refine G_iload_n hX 1 rfl rfl d_Mo_readHead_23 ?_
            refine G_iconst hX d_Mo_readHead_24 ?_
            refine G_icmp_ne_z hX (tgt := 34) d_Mo_readHead_25 rfl (by omega) (fun c182 => ?_) (fun c183 => by exfalso; omega)
            refine G_iload_n hX 1 rfl rfl d_Mo_readHead_34 ?_
            refine G_iconst hX d_Mo_readHead_35 ?_
            refine G_icmp_ne_z hX (tgt := 45) d_Mo_readHead_36 rfl (by omega) (fun c184 => ?_) (fun c185 => by exfalso; omega)
            refine G_iconst hX d_Mo_readHead_45 ?_
            refine G_icmp_eq_z hX (tgt := 55) d_Mo_readHead_46 rfl (by omega) (fun c186 => ?_) (fun c187 => by exfalso; omega)
            refine G_iinc_z hX (lv' := [(1, .int (zI ((((0 + 1) + 1) + 1) + 1))), (2, .int (zI 0)), (0, .ref (eA E 61))]) 1 rfl (by decide) rfl d_Mo_readHead_55 ?_
            refine G_goto hX (tgt := 2) d_Mo_readHead_58 rfl ?_
            refine G_iload_n hX 0 rfl rfl d_Mo_readHead_2 ?_
            refine G_iconst hX d_Mo_readHead_3 ?_
            refine G_icmp_ge_z hX (tgt := 61) d_Mo_readHead_4 rfl (by omega) (fun c188 => ?_) (fun c189 => by exfalso; omega)
            have h190 : F175 30 = .int (zI (p + 2)) := (k178 30 (by decide)).trans ((k168 30 (by decide)).trans ((k152 30 (by decide)).trans h29))
            exact F_vret hX hE d_Mo_readHead_61 ⟨rfl, F175, _, h176, h190, h177, (FrF.tr (FrF.tr (FrF.tr (FrF.tr (FrF.tr FrF.rf k9 (by decide)) k27 (by decide)) k152 (by decide)) k168 (by decide)) k178 (by decide)), (by omega), (Fr.tr (Fr.tr (Fr.tr (Fr.tr (Fr.tr Fr.rf k10 (by decide)) k28 (by decide)) k153 (by decide)) k169 (by decide)) k179 (by decide))⟩
        · skip
          refine G_aload_n hX 2 rfl rfl d_Mo_readHead_49 ?_
          refine G_bipush hX (by decide) d_Mo_readHead_50 ?_
          have h191 : F24 32 = .int (zI 0) := (k27 32 (by decide)).trans h18
          refine F_callV hX (st := []) (c_Mo_refuse E f21 F24 (-2) h25 (moK_fr hmk (FrF.tr (FrF.tr (FrF.rf (S := [30])) k9 (by decide)) k27 (by decide)) (by decide)) h191) cm_Mo_refuse im_Mo_refuse se_Mo_refuse rfl ml_Mo_354 d_Mo_readHead_52 (by decide) h25 rfl rfl (Nat.le_of_ble_eq_true rfl) (by decide) ?_
          rintro _ f192 ⟨rfl, F195, h196, h197, k198, k199⟩
          refine G_cast (st' := []) ?_ rfl rfl rfl rfl
          refine G_iinc_z hX (lv' := [(1, .int (zI ((0 + 1) + 1))), (2, .int (zI (g (p + 1)))), (0, .ref (eA E 61))]) 1 rfl (by decide) rfl d_Mo_readHead_55 ?_
          refine G_goto hX (tgt := 2) d_Mo_readHead_58 rfl ?_
          refine G_iload_n hX 0 rfl rfl d_Mo_readHead_2 ?_
          refine G_iconst hX d_Mo_readHead_3 ?_
          refine G_icmp_ge_z hX (tgt := 61) d_Mo_readHead_4 rfl (by omega) (fun c200 => by exfalso; omega) (fun c201 => ?_)
          refine G_aload_n hX 2 rfl rfl d_Mo_readHead_7 ?_
          refine F_callV hX (st := []) (c_Mo_readByte_f E f192 F195 (-2) h196 (moK_fr hmk (FrF.tr (FrF.tr (FrF.tr (FrF.rf (S := [30, 32])) k9 (by decide)) k27 (by decide)) k198 (by decide)) (by decide)) h197 (by omega)) cm_Mo_readByte im_Mo_readByte se_Mo_readByte rfl ml_Mo_357 d_Mo_readHead_8 (by decide) h196 rfl rfl (Nat.le_of_ble_eq_true rfl) (by decide) ?_
          rintro _ f202 ⟨rfl, F205, h206, h207, k208, k209⟩
          refine G_cast (st' := [.int (zI 0)]) ?_ rfl rfl rfl rfl
          refine G_istore_n hX (lv' := [(2, .int (zI 0)), (1, .int (zI ((0 + 1) + 1))), (0, .ref (eA E 61))]) rfl (by decide) rfl d_Mo_readHead_11 ?_
          refine G_iload_n hX 0 rfl rfl d_Mo_readHead_12 ?_
          refine G_iload_n hX 1 rfl rfl d_Mo_readHead_13 ?_
          refine G_if_ne_z hX (tgt := 23) d_Mo_readHead_14 rfl (by omega) (fun c210 => ?_) (fun c211 => by exfalso; omega)
          refine G_iload_n hX 1 rfl rfl d_Mo_readHead_23 ?_
          refine G_iconst hX d_Mo_readHead_24 ?_
          refine G_icmp_ne_z hX (tgt := 34) d_Mo_readHead_25 rfl (by omega) (fun c212 => ?_) (fun c213 => by exfalso; omega)
          refine G_iload_n hX 1 rfl rfl d_Mo_readHead_34 ?_
          refine G_iconst hX d_Mo_readHead_35 ?_
          refine G_icmp_ne_z hX (tgt := 45) d_Mo_readHead_36 rfl (by omega) (fun c214 => by exfalso; omega) (fun c215 => ?_)
          refine G_sipush hX (by decide) d_Mo_readHead_39 ?_
          refine G_goto hX (tgt := 46) d_Mo_readHead_42 rfl ?_
          refine G_icmp_eq_z hX (tgt := 55) d_Mo_readHead_46 rfl (by omega) (fun c216 => by exfalso; omega) (fun c217 => ?_)
          refine G_aload_n hX 2 rfl rfl d_Mo_readHead_49 ?_
          refine G_bipush hX (by decide) d_Mo_readHead_50 ?_
          refine F_callV hX (st := []) (c_Mo_refuse_f E f202 F205 (-2) (-2) h206 (moK_fr hmk (FrF.tr (FrF.tr (FrF.tr (FrF.tr (FrF.rf (S := [30, 32])) k9 (by decide)) k27 (by decide)) k198 (by decide)) k208 (by decide)) (by decide)) h207 (by omega)) cm_Mo_refuse im_Mo_refuse se_Mo_refuse rfl ml_Mo_354 d_Mo_readHead_52 (by decide) h206 rfl rfl (Nat.le_of_ble_eq_true rfl) (by decide) ?_
          rintro _ f218 ⟨rfl, F221, h222, h223, k224, k225⟩
          refine G_cast (st' := []) ?_ rfl rfl rfl rfl
          refine G_iinc_z hX (lv' := [(1, .int (zI (((0 + 1) + 1) + 1))), (2, .int (zI 0)), (0, .ref (eA E 61))]) 1 rfl (by decide) rfl d_Mo_readHead_55 ?_
          refine G_goto hX (tgt := 2) d_Mo_readHead_58 rfl ?_
          refine G_iload_n hX 0 rfl rfl d_Mo_readHead_2 ?_
          refine G_iconst hX d_Mo_readHead_3 ?_
          refine G_icmp_ge_z hX (tgt := 61) d_Mo_readHead_4 rfl (by omega) (fun c226 => by exfalso; omega) (fun c227 => ?_)
          refine G_aload_n hX 2 rfl rfl d_Mo_readHead_7 ?_
          refine F_callV hX (st := []) (c_Mo_readByte_f E f218 F221 (-2) h222 (moK_fr hmk (FrF.tr (FrF.tr (FrF.tr (FrF.tr (FrF.tr (FrF.rf (S := [30, 32])) k9 (by decide)) k27 (by decide)) k198 (by decide)) k208 (by decide)) k224 (by decide)) (by decide)) h223 (by omega)) cm_Mo_readByte im_Mo_readByte se_Mo_readByte rfl ml_Mo_357 d_Mo_readHead_8 (by decide) h222 rfl rfl (Nat.le_of_ble_eq_true rfl) (by decide) ?_
          rintro _ f228 ⟨rfl, F231, h232, h233, k234, k235⟩
          refine G_cast (st' := [.int (zI 0)]) ?_ rfl rfl rfl rfl
          refine G_istore_n hX (lv' := [(2, .int (zI 0)), (1, .int (zI (((0 + 1) + 1) + 1))), (0, .ref (eA E 61))]) rfl (by decide) rfl d_Mo_readHead_11 ?_
          refine G_iload_n hX 0 rfl rfl d_Mo_readHead_12 ?_
          refine G_iload_n hX 1 rfl rfl d_Mo_readHead_13 ?_
          refine G_if_ne_z hX (tgt := 23) d_Mo_readHead_14 rfl (by omega) (fun c236 => ?_) (fun c237 => by exfalso; omega)
          refine G_iload_n hX 1 rfl rfl d_Mo_readHead_23 ?_
          refine G_iconst hX d_Mo_readHead_24 ?_
          refine G_icmp_ne_z hX (tgt := 34) d_Mo_readHead_25 rfl (by omega) (fun c238 => ?_) (fun c239 => by exfalso; omega)
          refine G_iload_n hX 1 rfl rfl d_Mo_readHead_34 ?_
          refine G_iconst hX d_Mo_readHead_35 ?_
          refine G_icmp_ne_z hX (tgt := 45) d_Mo_readHead_36 rfl (by omega) (fun c240 => ?_) (fun c241 => by exfalso; omega)
          refine G_iconst hX d_Mo_readHead_45 ?_
          refine G_icmp_eq_z hX (tgt := 55) d_Mo_readHead_46 rfl (by omega) (fun c242 => ?_) (fun c243 => by exfalso; omega)
          refine G_iinc_z hX (lv' := [(1, .int (zI ((((0 + 1) + 1) + 1) + 1))), (2, .int (zI 0)), (0, .ref (eA E 61))]) 1 rfl (by decide) rfl d_Mo_readHead_55 ?_
          refine G_goto hX (tgt := 2) d_Mo_readHead_58 rfl ?_
          refine G_iload_n hX 0 rfl rfl d_Mo_readHead_2 ?_
          refine G_iconst hX d_Mo_readHead_3 ?_
          refine G_icmp_ge_z hX (tgt := 61) d_Mo_readHead_4 rfl (by omega) (fun c244 => ?_) (fun c245 => by exfalso; omega)
          have h246 : F231 30 = .int (zI (p + 2)) := (k234 30 (by decide)).trans ((k224 30 (by decide)).trans ((k208 30 (by decide)).trans ((k198 30 (by decide)).trans h29)))
          exact F_vret hX hE d_Mo_readHead_61 ⟨rfl, F231, _, h232, h246, h233, (FrF.tr (FrF.tr (FrF.tr (FrF.tr (FrF.tr (FrF.tr FrF.rf k9 (by decide)) k27 (by decide)) k198 (by decide)) k208 (by decide)) k224 (by decide)) k234 (by decide)), (by omega), (Fr.tr (Fr.tr (Fr.tr (Fr.tr (Fr.tr (Fr.tr Fr.rf k10 (by decide)) k28 (by decide)) k199 (by decide)) k209 (by decide)) k225 (by decide)) k235 (by decide))⟩
      · skip
        refine G_aload_n hX 2 rfl rfl d_Mo_readHead_7 ?_
        have h247 : F6 31 = .int (zI e) := (k9 31 (by decide)).trans hF31
        refine F_callV hX (st := []) (c_Mo_readByte_no E f3 F6 (p + 1) e h7 (moK_fr hmk (FrF.tr (FrF.rf (S := [30])) k9 (by decide)) (by decide)) h11 h247 h18 (by omega)) cm_Mo_readByte im_Mo_readByte se_Mo_readByte rfl ml_Mo_357 d_Mo_readHead_8 (by decide) h7 rfl rfl (Nat.le_of_ble_eq_true rfl) (by decide) ?_
        rintro _ f248 ⟨rfl, F251, h252, h253, k254, k255⟩
        refine G_cast (st' := [.int (zI 0)]) ?_ rfl rfl rfl rfl
        refine G_istore_n hX (lv' := [(2, .int (zI 0)), (1, .int (zI (0 + 1))), (0, .ref (eA E 61))]) rfl (by decide) rfl d_Mo_readHead_11 ?_
        refine G_iload_n hX 0 rfl rfl d_Mo_readHead_12 ?_
        refine G_iload_n hX 1 rfl rfl d_Mo_readHead_13 ?_
        refine G_if_ne_z hX (tgt := 23) d_Mo_readHead_14 rfl (by omega) (fun c256 => ?_) (fun c257 => by exfalso; omega)
        refine G_iload_n hX 1 rfl rfl d_Mo_readHead_23 ?_
        refine G_iconst hX d_Mo_readHead_24 ?_
        refine G_icmp_ne_z hX (tgt := 34) d_Mo_readHead_25 rfl (by omega) (fun c258 => by exfalso; omega) (fun c259 => ?_)
        refine G_sipush hX (by decide) d_Mo_readHead_28 ?_
        refine G_goto hX (tgt := 46) d_Mo_readHead_31 rfl ?_
        refine G_icmp_eq_z hX (tgt := 55) d_Mo_readHead_46 rfl (by omega) (fun c260 => by exfalso; omega) (fun c261 => ?_)
        refine G_aload_n hX 2 rfl rfl d_Mo_readHead_49 ?_
        refine G_bipush hX (by decide) d_Mo_readHead_50 ?_
        refine F_callV hX (st := []) (c_Mo_refuse_f E f248 F251 (-2) (-2) h252 (moK_fr hmk (FrF.tr (FrF.tr (FrF.rf (S := [30, 32])) k9 (by decide)) k254 (by decide)) (by decide)) h253 (by omega)) cm_Mo_refuse im_Mo_refuse se_Mo_refuse rfl ml_Mo_354 d_Mo_readHead_52 (by decide) h252 rfl rfl (Nat.le_of_ble_eq_true rfl) (by decide) ?_
        rintro _ f262 ⟨rfl, F265, h266, h267, k268, k269⟩
        refine G_cast (st' := []) ?_ rfl rfl rfl rfl
        refine G_iinc_z hX (lv' := [(1, .int (zI ((0 + 1) + 1))), (2, .int (zI 0)), (0, .ref (eA E 61))]) 1 rfl (by decide) rfl d_Mo_readHead_55 ?_
        refine G_goto hX (tgt := 2) d_Mo_readHead_58 rfl ?_
        refine G_iload_n hX 0 rfl rfl d_Mo_readHead_2 ?_
        refine G_iconst hX d_Mo_readHead_3 ?_
        refine G_icmp_ge_z hX (tgt := 61) d_Mo_readHead_4 rfl (by omega) (fun c270 => by exfalso; omega) (fun c271 => ?_)
        refine G_aload_n hX 2 rfl rfl d_Mo_readHead_7 ?_
        refine F_callV hX (st := []) (c_Mo_readByte_f E f262 F265 (-2) h266 (moK_fr hmk (FrF.tr (FrF.tr (FrF.tr (FrF.rf (S := [30, 32])) k9 (by decide)) k254 (by decide)) k268 (by decide)) (by decide)) h267 (by omega)) cm_Mo_readByte im_Mo_readByte se_Mo_readByte rfl ml_Mo_357 d_Mo_readHead_8 (by decide) h266 rfl rfl (Nat.le_of_ble_eq_true rfl) (by decide) ?_
        rintro _ f272 ⟨rfl, F275, h276, h277, k278, k279⟩
        refine G_cast (st' := [.int (zI 0)]) ?_ rfl rfl rfl rfl
        refine G_istore_n hX (lv' := [(2, .int (zI 0)), (1, .int (zI ((0 + 1) + 1))), (0, .ref (eA E 61))]) rfl (by decide) rfl d_Mo_readHead_11 ?_
        refine G_iload_n hX 0 rfl rfl d_Mo_readHead_12 ?_
        refine G_iload_n hX 1 rfl rfl d_Mo_readHead_13 ?_
        refine G_if_ne_z hX (tgt := 23) d_Mo_readHead_14 rfl (by omega) (fun c280 => ?_) (fun c281 => by exfalso; omega)
        refine G_iload_n hX 1 rfl rfl d_Mo_readHead_23 ?_
        refine G_iconst hX d_Mo_readHead_24 ?_
        refine G_icmp_ne_z hX (tgt := 34) d_Mo_readHead_25 rfl (by omega) (fun c282 => ?_) (fun c283 => by exfalso; omega)
        refine G_iload_n hX 1 rfl rfl d_Mo_readHead_34 ?_
        refine G_iconst hX d_Mo_readHead_35 ?_
        refine G_icmp_ne_z hX (tgt := 45) d_Mo_readHead_36 rfl (by omega) (fun c284 => by exfalso; omega) (fun c285 => ?_)
        refine G_sipush hX (by decide) d_Mo_readHead_39 ?_
        refine G_goto hX (tgt := 46) d_Mo_readHead_42 rfl ?_
        refine G_icmp_eq_z hX (tgt := 55) d_Mo_readHead_46 rfl (by omega) (fun c286 => by exfalso; omega) (fun c287 => ?_)
        refine G_aload_n hX 2 rfl rfl d_Mo_readHead_49 ?_
        refine G_bipush hX (by decide) d_Mo_readHead_50 ?_
        refine F_callV hX (st := []) (c_Mo_refuse_f E f272 F275 (-2) (-2) h276 (moK_fr hmk (FrF.tr (FrF.tr (FrF.tr (FrF.tr (FrF.rf (S := [30, 32])) k9 (by decide)) k254 (by decide)) k268 (by decide)) k278 (by decide)) (by decide)) h277 (by omega)) cm_Mo_refuse im_Mo_refuse se_Mo_refuse rfl ml_Mo_354 d_Mo_readHead_52 (by decide) h276 rfl rfl (Nat.le_of_ble_eq_true rfl) (by decide) ?_
        rintro _ f288 ⟨rfl, F291, h292, h293, k294, k295⟩
        refine G_cast (st' := []) ?_ rfl rfl rfl rfl
        refine G_iinc_z hX (lv' := [(1, .int (zI (((0 + 1) + 1) + 1))), (2, .int (zI 0)), (0, .ref (eA E 61))]) 1 rfl (by decide) rfl d_Mo_readHead_55 ?_
        refine G_goto hX (tgt := 2) d_Mo_readHead_58 rfl ?_
        refine G_iload_n hX 0 rfl rfl d_Mo_readHead_2 ?_
        refine G_iconst hX d_Mo_readHead_3 ?_
        refine G_icmp_ge_z hX (tgt := 61) d_Mo_readHead_4 rfl (by omega) (fun c296 => by exfalso; omega) (fun c297 => ?_)
        refine G_aload_n hX 2 rfl rfl d_Mo_readHead_7 ?_
        refine F_callV hX (st := []) (c_Mo_readByte_f E f288 F291 (-2) h292 (moK_fr hmk (FrF.tr (FrF.tr (FrF.tr (FrF.tr (FrF.tr (FrF.rf (S := [30, 32])) k9 (by decide)) k254 (by decide)) k268 (by decide)) k278 (by decide)) k294 (by decide)) (by decide)) h293 (by omega)) cm_Mo_readByte im_Mo_readByte se_Mo_readByte rfl ml_Mo_357 d_Mo_readHead_8 (by decide) h292 rfl rfl (Nat.le_of_ble_eq_true rfl) (by decide) ?_
        rintro _ f298 ⟨rfl, F301, h302, h303, k304, k305⟩
        refine G_cast (st' := [.int (zI 0)]) ?_ rfl rfl rfl rfl
        refine G_istore_n hX (lv' := [(2, .int (zI 0)), (1, .int (zI (((0 + 1) + 1) + 1))), (0, .ref (eA E 61))]) rfl (by decide) rfl d_Mo_readHead_11 ?_
        refine G_iload_n hX 0 rfl rfl d_Mo_readHead_12 ?_
        refine G_iload_n hX 1 rfl rfl d_Mo_readHead_13 ?_
        refine G_if_ne_z hX (tgt := 23) d_Mo_readHead_14 rfl (by omega) (fun c306 => ?_) (fun c307 => by exfalso; omega)
        refine G_iload_n hX 1 rfl rfl d_Mo_readHead_23 ?_
        refine G_iconst hX d_Mo_readHead_24 ?_
        refine G_icmp_ne_z hX (tgt := 34) d_Mo_readHead_25 rfl (by omega) (fun c308 => ?_) (fun c309 => by exfalso; omega)
        refine G_iload_n hX 1 rfl rfl d_Mo_readHead_34 ?_
        refine G_iconst hX d_Mo_readHead_35 ?_
        refine G_icmp_ne_z hX (tgt := 45) d_Mo_readHead_36 rfl (by omega) (fun c310 => ?_) (fun c311 => by exfalso; omega)
        refine G_iconst hX d_Mo_readHead_45 ?_
        refine G_icmp_eq_z hX (tgt := 55) d_Mo_readHead_46 rfl (by omega) (fun c312 => ?_) (fun c313 => by exfalso; omega)
        refine G_iinc_z hX (lv' := [(1, .int (zI ((((0 + 1) + 1) + 1) + 1))), (2, .int (zI 0)), (0, .ref (eA E 61))]) 1 rfl (by decide) rfl d_Mo_readHead_55 ?_
        refine G_goto hX (tgt := 2) d_Mo_readHead_58 rfl ?_
        refine G_iload_n hX 0 rfl rfl d_Mo_readHead_2 ?_
        refine G_iconst hX d_Mo_readHead_3 ?_
        refine G_icmp_ge_z hX (tgt := 61) d_Mo_readHead_4 rfl (by omega) (fun c314 => ?_) (fun c315 => by exfalso; omega)
        have h316 : F301 30 = .int (zI (p + 1)) := (k304 30 (by decide)).trans ((k294 30 (by decide)).trans ((k278 30 (by decide)).trans ((k268 30 (by decide)).trans ((k254 30 (by decide)).trans h11))))
        exact F_vret hX hE d_Mo_readHead_61 ⟨rfl, F301, _, h302, h316, h303, (FrF.tr (FrF.tr (FrF.tr (FrF.tr (FrF.tr (FrF.tr FrF.rf k9 (by decide)) k254 (by decide)) k268 (by decide)) k278 (by decide)) k294 (by decide)) k304 (by decide)), (by omega), (Fr.tr (Fr.tr (Fr.tr (Fr.tr (Fr.tr (Fr.tr Fr.rf k10 (by decide)) k255 (by decide)) k269 (by decide)) k279 (by decide)) k295 (by decide)) k305 (by decide))⟩
    · skip
      refine G_aload_n hX 2 rfl rfl d_Mo_readHead_49 ?_
      refine G_bipush hX (by decide) d_Mo_readHead_50 ?_
      have h317 : F6 32 = .int (zI 0) := (k9 32 (by decide)).trans hF32
      refine F_callV hX (st := []) (c_Mo_refuse E f3 F6 (-2) h7 (moK_fr hmk (FrF.tr (FrF.rf (S := [30])) k9 (by decide)) (by decide)) h317) cm_Mo_refuse im_Mo_refuse se_Mo_refuse rfl ml_Mo_354 d_Mo_readHead_52 (by decide) h7 rfl rfl (Nat.le_of_ble_eq_true rfl) (by decide) ?_
      rintro _ f318 ⟨rfl, F321, h322, h323, k324, k325⟩
      refine G_cast (st' := []) ?_ rfl rfl rfl rfl
      refine G_iinc_z hX (lv' := [(1, .int (zI (0 + 1))), (2, .int (zI (g (p)))), (0, .ref (eA E 61))]) 1 rfl (by decide) rfl d_Mo_readHead_55 ?_
      refine G_goto hX (tgt := 2) d_Mo_readHead_58 rfl ?_
      refine G_iload_n hX 0 rfl rfl d_Mo_readHead_2 ?_
      refine G_iconst hX d_Mo_readHead_3 ?_
      refine G_icmp_ge_z hX (tgt := 61) d_Mo_readHead_4 rfl (by omega) (fun c326 => by exfalso; omega) (fun c327 => ?_)
      refine G_aload_n hX 2 rfl rfl d_Mo_readHead_7 ?_
      refine F_callV hX (st := []) (c_Mo_readByte_f E f318 F321 (-2) h322 (moK_fr hmk (FrF.tr (FrF.tr (FrF.rf (S := [30, 32])) k9 (by decide)) k324 (by decide)) (by decide)) h323 (by omega)) cm_Mo_readByte im_Mo_readByte se_Mo_readByte rfl ml_Mo_357 d_Mo_readHead_8 (by decide) h322 rfl rfl (Nat.le_of_ble_eq_true rfl) (by decide) ?_
      rintro _ f328 ⟨rfl, F331, h332, h333, k334, k335⟩
      refine G_cast (st' := [.int (zI 0)]) ?_ rfl rfl rfl rfl
      refine G_istore_n hX (lv' := [(2, .int (zI 0)), (1, .int (zI (0 + 1))), (0, .ref (eA E 61))]) rfl (by decide) rfl d_Mo_readHead_11 ?_
      refine G_iload_n hX 0 rfl rfl d_Mo_readHead_12 ?_
      refine G_iload_n hX 1 rfl rfl d_Mo_readHead_13 ?_
      refine G_if_ne_z hX (tgt := 23) d_Mo_readHead_14 rfl (by omega) (fun c336 => ?_) (fun c337 => by exfalso; omega)
      refine G_iload_n hX 1 rfl rfl d_Mo_readHead_23 ?_
      refine G_iconst hX d_Mo_readHead_24 ?_
      refine G_icmp_ne_z hX (tgt := 34) d_Mo_readHead_25 rfl (by omega) (fun c338 => by exfalso; omega) (fun c339 => ?_)
      refine G_sipush hX (by decide) d_Mo_readHead_28 ?_
      refine G_goto hX (tgt := 46) d_Mo_readHead_31 rfl ?_
      refine G_icmp_eq_z hX (tgt := 55) d_Mo_readHead_46 rfl (by omega) (fun c340 => by exfalso; omega) (fun c341 => ?_)
      refine G_aload_n hX 2 rfl rfl d_Mo_readHead_49 ?_
      refine G_bipush hX (by decide) d_Mo_readHead_50 ?_
      refine F_callV hX (st := []) (c_Mo_refuse_f E f328 F331 (-2) (-2) h332 (moK_fr hmk (FrF.tr (FrF.tr (FrF.tr (FrF.rf (S := [30, 32])) k9 (by decide)) k324 (by decide)) k334 (by decide)) (by decide)) h333 (by omega)) cm_Mo_refuse im_Mo_refuse se_Mo_refuse rfl ml_Mo_354 d_Mo_readHead_52 (by decide) h332 rfl rfl (Nat.le_of_ble_eq_true rfl) (by decide) ?_
      rintro _ f342 ⟨rfl, F345, h346, h347, k348, k349⟩
      refine G_cast (st' := []) ?_ rfl rfl rfl rfl
      refine G_iinc_z hX (lv' := [(1, .int (zI ((0 + 1) + 1))), (2, .int (zI 0)), (0, .ref (eA E 61))]) 1 rfl (by decide) rfl d_Mo_readHead_55 ?_
      refine G_goto hX (tgt := 2) d_Mo_readHead_58 rfl ?_
      refine G_iload_n hX 0 rfl rfl d_Mo_readHead_2 ?_
      refine G_iconst hX d_Mo_readHead_3 ?_
      refine G_icmp_ge_z hX (tgt := 61) d_Mo_readHead_4 rfl (by omega) (fun c350 => by exfalso; omega) (fun c351 => ?_)
      refine G_aload_n hX 2 rfl rfl d_Mo_readHead_7 ?_
      refine F_callV hX (st := []) (c_Mo_readByte_f E f342 F345 (-2) h346 (moK_fr hmk (FrF.tr (FrF.tr (FrF.tr (FrF.tr (FrF.rf (S := [30, 32])) k9 (by decide)) k324 (by decide)) k334 (by decide)) k348 (by decide)) (by decide)) h347 (by omega)) cm_Mo_readByte im_Mo_readByte se_Mo_readByte rfl ml_Mo_357 d_Mo_readHead_8 (by decide) h346 rfl rfl (Nat.le_of_ble_eq_true rfl) (by decide) ?_
      rintro _ f352 ⟨rfl, F355, h356, h357, k358, k359⟩
      refine G_cast (st' := [.int (zI 0)]) ?_ rfl rfl rfl rfl
      refine G_istore_n hX (lv' := [(2, .int (zI 0)), (1, .int (zI ((0 + 1) + 1))), (0, .ref (eA E 61))]) rfl (by decide) rfl d_Mo_readHead_11 ?_
      refine G_iload_n hX 0 rfl rfl d_Mo_readHead_12 ?_
      refine G_iload_n hX 1 rfl rfl d_Mo_readHead_13 ?_
      refine G_if_ne_z hX (tgt := 23) d_Mo_readHead_14 rfl (by omega) (fun c360 => ?_) (fun c361 => by exfalso; omega)
      refine G_iload_n hX 1 rfl rfl d_Mo_readHead_23 ?_
      refine G_iconst hX d_Mo_readHead_24 ?_
      refine G_icmp_ne_z hX (tgt := 34) d_Mo_readHead_25 rfl (by omega) (fun c362 => ?_) (fun c363 => by exfalso; omega)
      refine G_iload_n hX 1 rfl rfl d_Mo_readHead_34 ?_
      refine G_iconst hX d_Mo_readHead_35 ?_
      refine G_icmp_ne_z hX (tgt := 45) d_Mo_readHead_36 rfl (by omega) (fun c364 => by exfalso; omega) (fun c365 => ?_)
      refine G_sipush hX (by decide) d_Mo_readHead_39 ?_
      refine G_goto hX (tgt := 46) d_Mo_readHead_42 rfl ?_
      refine G_icmp_eq_z hX (tgt := 55) d_Mo_readHead_46 rfl (by omega) (fun c366 => by exfalso; omega) (fun c367 => ?_)
      refine G_aload_n hX 2 rfl rfl d_Mo_readHead_49 ?_
      refine G_bipush hX (by decide) d_Mo_readHead_50 ?_
      refine F_callV hX (st := []) (c_Mo_refuse_f E f352 F355 (-2) (-2) h356 (moK_fr hmk (FrF.tr (FrF.tr (FrF.tr (FrF.tr (FrF.tr (FrF.rf (S := [30, 32])) k9 (by decide)) k324 (by decide)) k334 (by decide)) k348 (by decide)) k358 (by decide)) (by decide)) h357 (by omega)) cm_Mo_refuse im_Mo_refuse se_Mo_refuse rfl ml_Mo_354 d_Mo_readHead_52 (by decide) h356 rfl rfl (Nat.le_of_ble_eq_true rfl) (by decide) ?_
      rintro _ f368 ⟨rfl, F371, h372, h373, k374, k375⟩
      refine G_cast (st' := []) ?_ rfl rfl rfl rfl
      refine G_iinc_z hX (lv' := [(1, .int (zI (((0 + 1) + 1) + 1))), (2, .int (zI 0)), (0, .ref (eA E 61))]) 1 rfl (by decide) rfl d_Mo_readHead_55 ?_
      refine G_goto hX (tgt := 2) d_Mo_readHead_58 rfl ?_
      refine G_iload_n hX 0 rfl rfl d_Mo_readHead_2 ?_
      refine G_iconst hX d_Mo_readHead_3 ?_
      refine G_icmp_ge_z hX (tgt := 61) d_Mo_readHead_4 rfl (by omega) (fun c376 => by exfalso; omega) (fun c377 => ?_)
      refine G_aload_n hX 2 rfl rfl d_Mo_readHead_7 ?_
      refine F_callV hX (st := []) (c_Mo_readByte_f E f368 F371 (-2) h372 (moK_fr hmk (FrF.tr (FrF.tr (FrF.tr (FrF.tr (FrF.tr (FrF.tr (FrF.rf (S := [30, 32])) k9 (by decide)) k324 (by decide)) k334 (by decide)) k348 (by decide)) k358 (by decide)) k374 (by decide)) (by decide)) h373 (by omega)) cm_Mo_readByte im_Mo_readByte se_Mo_readByte rfl ml_Mo_357 d_Mo_readHead_8 (by decide) h372 rfl rfl (Nat.le_of_ble_eq_true rfl) (by decide) ?_
      rintro _ f378 ⟨rfl, F381, h382, h383, k384, k385⟩
      refine G_cast (st' := [.int (zI 0)]) ?_ rfl rfl rfl rfl
      refine G_istore_n hX (lv' := [(2, .int (zI 0)), (1, .int (zI (((0 + 1) + 1) + 1))), (0, .ref (eA E 61))]) rfl (by decide) rfl d_Mo_readHead_11 ?_
      refine G_iload_n hX 0 rfl rfl d_Mo_readHead_12 ?_
      refine G_iload_n hX 1 rfl rfl d_Mo_readHead_13 ?_
      refine G_if_ne_z hX (tgt := 23) d_Mo_readHead_14 rfl (by omega) (fun c386 => ?_) (fun c387 => by exfalso; omega)
      refine G_iload_n hX 1 rfl rfl d_Mo_readHead_23 ?_
      refine G_iconst hX d_Mo_readHead_24 ?_
      refine G_icmp_ne_z hX (tgt := 34) d_Mo_readHead_25 rfl (by omega) (fun c388 => ?_) (fun c389 => by exfalso; omega)
      refine G_iload_n hX 1 rfl rfl d_Mo_readHead_34 ?_
      refine G_iconst hX d_Mo_readHead_35 ?_
      refine G_icmp_ne_z hX (tgt := 45) d_Mo_readHead_36 rfl (by omega) (fun c390 => ?_) (fun c391 => by exfalso; omega)
      refine G_iconst hX d_Mo_readHead_45 ?_
      refine G_icmp_eq_z hX (tgt := 55) d_Mo_readHead_46 rfl (by omega) (fun c392 => ?_) (fun c393 => by exfalso; omega)
      refine G_iinc_z hX (lv' := [(1, .int (zI ((((0 + 1) + 1) + 1) + 1))), (2, .int (zI 0)), (0, .ref (eA E 61))]) 1 rfl (by decide) rfl d_Mo_readHead_55 ?_
      refine G_goto hX (tgt := 2) d_Mo_readHead_58 rfl ?_
      refine G_iload_n hX 0 rfl rfl d_Mo_readHead_2 ?_
      refine G_iconst hX d_Mo_readHead_3 ?_
      refine G_icmp_ge_z hX (tgt := 61) d_Mo_readHead_4 rfl (by omega) (fun c394 => ?_) (fun c395 => by exfalso; omega)
      have h396 : F381 30 = .int (zI (p + 1)) := (k384 30 (by decide)).trans ((k374 30 (by decide)).trans ((k358 30 (by decide)).trans ((k348 30 (by decide)).trans ((k334 30 (by decide)).trans ((k324 30 (by decide)).trans h11)))))
      exact F_vret hX hE d_Mo_readHead_61 ⟨rfl, F381, _, h382, h396, h383, (FrF.tr (FrF.tr (FrF.tr (FrF.tr (FrF.tr (FrF.tr (FrF.tr FrF.rf k9 (by decide)) k324 (by decide)) k334 (by decide)) k348 (by decide)) k358 (by decide)) k374 (by decide)) k384 (by decide)), (by omega), (Fr.tr (Fr.tr (Fr.tr (Fr.tr (Fr.tr (Fr.tr (Fr.tr Fr.rf k10 (by decide)) k325 (by decide)) k335 (by decide)) k349 (by decide)) k359 (by decide)) k375 (by decide)) k385 (by decide))⟩
  · skip
    refine G_aload_n hX 1 rfl rfl d_Mo_readHead_7 ?_
    refine F_callV hX (st := []) (c_Mo_readByte_no E f F p e hMo hmk hF30 hF31 hF32 (by omega)) cm_Mo_readByte im_Mo_readByte se_Mo_readByte rfl ml_Mo_357 d_Mo_readHead_8 (by decide) hMo rfl rfl (Nat.le_of_ble_eq_true rfl) (by decide) ?_
    rintro _ f397 ⟨rfl, F400, h401, h402, k403, k404⟩
    refine G_cast (st' := [.int (zI 0)]) ?_ rfl rfl rfl rfl
    refine G_istore_n hX (lv' := [(2, .int (zI 0)), (1, .int (zI 0)), (0, .ref (eA E 61))]) rfl (by decide) rfl d_Mo_readHead_11 ?_
    refine G_iload_n hX 0 rfl rfl d_Mo_readHead_12 ?_
    refine G_iload_n hX 1 rfl rfl d_Mo_readHead_13 ?_
    refine G_if_ne_z hX (tgt := 23) d_Mo_readHead_14 rfl (by omega) (fun c405 => by exfalso; omega) (fun c406 => ?_)
    refine G_sipush hX (by decide) d_Mo_readHead_17 ?_
    refine G_goto hX (tgt := 46) d_Mo_readHead_20 rfl ?_
    refine G_icmp_eq_z hX (tgt := 55) d_Mo_readHead_46 rfl (by omega) (fun c407 => by exfalso; omega) (fun c408 => ?_)
    refine G_aload_n hX 2 rfl rfl d_Mo_readHead_49 ?_
    refine G_bipush hX (by decide) d_Mo_readHead_50 ?_
    refine F_callV hX (st := []) (c_Mo_refuse_f E f397 F400 (-2) (-2) h401 (moK_fr hmk (FrF.tr (FrF.rf (S := [32])) k403 (by decide)) (by decide)) h402 (by omega)) cm_Mo_refuse im_Mo_refuse se_Mo_refuse rfl ml_Mo_354 d_Mo_readHead_52 (by decide) h401 rfl rfl (Nat.le_of_ble_eq_true rfl) (by decide) ?_
    rintro _ f409 ⟨rfl, F412, h413, h414, k415, k416⟩
    refine G_cast (st' := []) ?_ rfl rfl rfl rfl
    refine G_iinc_z hX (lv' := [(1, .int (zI (0 + 1))), (2, .int (zI 0)), (0, .ref (eA E 61))]) 1 rfl (by decide) rfl d_Mo_readHead_55 ?_
    refine G_goto hX (tgt := 2) d_Mo_readHead_58 rfl ?_
    refine G_iload_n hX 0 rfl rfl d_Mo_readHead_2 ?_
    refine G_iconst hX d_Mo_readHead_3 ?_
    refine G_icmp_ge_z hX (tgt := 61) d_Mo_readHead_4 rfl (by omega) (fun c417 => by exfalso; omega) (fun c418 => ?_)
    refine G_aload_n hX 2 rfl rfl d_Mo_readHead_7 ?_
    refine F_callV hX (st := []) (c_Mo_readByte_f E f409 F412 (-2) h413 (moK_fr hmk (FrF.tr (FrF.tr (FrF.rf (S := [32])) k403 (by decide)) k415 (by decide)) (by decide)) h414 (by omega)) cm_Mo_readByte im_Mo_readByte se_Mo_readByte rfl ml_Mo_357 d_Mo_readHead_8 (by decide) h413 rfl rfl (Nat.le_of_ble_eq_true rfl) (by decide) ?_
    rintro _ f419 ⟨rfl, F422, h423, h424, k425, k426⟩
    refine G_cast (st' := [.int (zI 0)]) ?_ rfl rfl rfl rfl
    refine G_istore_n hX (lv' := [(2, .int (zI 0)), (1, .int (zI (0 + 1))), (0, .ref (eA E 61))]) rfl (by decide) rfl d_Mo_readHead_11 ?_
    refine G_iload_n hX 0 rfl rfl d_Mo_readHead_12 ?_
    refine G_iload_n hX 1 rfl rfl d_Mo_readHead_13 ?_
    refine G_if_ne_z hX (tgt := 23) d_Mo_readHead_14 rfl (by omega) (fun c427 => ?_) (fun c428 => by exfalso; omega)
    refine G_iload_n hX 1 rfl rfl d_Mo_readHead_23 ?_
    refine G_iconst hX d_Mo_readHead_24 ?_
    refine G_icmp_ne_z hX (tgt := 34) d_Mo_readHead_25 rfl (by omega) (fun c429 => by exfalso; omega) (fun c430 => ?_)
    refine G_sipush hX (by decide) d_Mo_readHead_28 ?_
    refine G_goto hX (tgt := 46) d_Mo_readHead_31 rfl ?_
    refine G_icmp_eq_z hX (tgt := 55) d_Mo_readHead_46 rfl (by omega) (fun c431 => by exfalso; omega) (fun c432 => ?_)
    refine G_aload_n hX 2 rfl rfl d_Mo_readHead_49 ?_
    refine G_bipush hX (by decide) d_Mo_readHead_50 ?_
    refine F_callV hX (st := []) (c_Mo_refuse_f E f419 F422 (-2) (-2) h423 (moK_fr hmk (FrF.tr (FrF.tr (FrF.tr (FrF.rf (S := [32])) k403 (by decide)) k415 (by decide)) k425 (by decide)) (by decide)) h424 (by omega)) cm_Mo_refuse im_Mo_refuse se_Mo_refuse rfl ml_Mo_354 d_Mo_readHead_52 (by decide) h423 rfl rfl (Nat.le_of_ble_eq_true rfl) (by decide) ?_
    rintro _ f433 ⟨rfl, F436, h437, h438, k439, k440⟩
    refine G_cast (st' := []) ?_ rfl rfl rfl rfl
    refine G_iinc_z hX (lv' := [(1, .int (zI ((0 + 1) + 1))), (2, .int (zI 0)), (0, .ref (eA E 61))]) 1 rfl (by decide) rfl d_Mo_readHead_55 ?_
    refine G_goto hX (tgt := 2) d_Mo_readHead_58 rfl ?_
    refine G_iload_n hX 0 rfl rfl d_Mo_readHead_2 ?_
    refine G_iconst hX d_Mo_readHead_3 ?_
    refine G_icmp_ge_z hX (tgt := 61) d_Mo_readHead_4 rfl (by omega) (fun c441 => by exfalso; omega) (fun c442 => ?_)
    refine G_aload_n hX 2 rfl rfl d_Mo_readHead_7 ?_
    refine F_callV hX (st := []) (c_Mo_readByte_f E f433 F436 (-2) h437 (moK_fr hmk (FrF.tr (FrF.tr (FrF.tr (FrF.tr (FrF.rf (S := [32])) k403 (by decide)) k415 (by decide)) k425 (by decide)) k439 (by decide)) (by decide)) h438 (by omega)) cm_Mo_readByte im_Mo_readByte se_Mo_readByte rfl ml_Mo_357 d_Mo_readHead_8 (by decide) h437 rfl rfl (Nat.le_of_ble_eq_true rfl) (by decide) ?_
    rintro _ f443 ⟨rfl, F446, h447, h448, k449, k450⟩
    refine G_cast (st' := [.int (zI 0)]) ?_ rfl rfl rfl rfl
    refine G_istore_n hX (lv' := [(2, .int (zI 0)), (1, .int (zI ((0 + 1) + 1))), (0, .ref (eA E 61))]) rfl (by decide) rfl d_Mo_readHead_11 ?_
    refine G_iload_n hX 0 rfl rfl d_Mo_readHead_12 ?_
    refine G_iload_n hX 1 rfl rfl d_Mo_readHead_13 ?_
    refine G_if_ne_z hX (tgt := 23) d_Mo_readHead_14 rfl (by omega) (fun c451 => ?_) (fun c452 => by exfalso; omega)
    refine G_iload_n hX 1 rfl rfl d_Mo_readHead_23 ?_
    refine G_iconst hX d_Mo_readHead_24 ?_
    refine G_icmp_ne_z hX (tgt := 34) d_Mo_readHead_25 rfl (by omega) (fun c453 => ?_) (fun c454 => by exfalso; omega)
    refine G_iload_n hX 1 rfl rfl d_Mo_readHead_34 ?_
    refine G_iconst hX d_Mo_readHead_35 ?_
    refine G_icmp_ne_z hX (tgt := 45) d_Mo_readHead_36 rfl (by omega) (fun c455 => by exfalso; omega) (fun c456 => ?_)
    refine G_sipush hX (by decide) d_Mo_readHead_39 ?_
    refine G_goto hX (tgt := 46) d_Mo_readHead_42 rfl ?_
    refine G_icmp_eq_z hX (tgt := 55) d_Mo_readHead_46 rfl (by omega) (fun c457 => by exfalso; omega) (fun c458 => ?_)
    refine G_aload_n hX 2 rfl rfl d_Mo_readHead_49 ?_
    refine G_bipush hX (by decide) d_Mo_readHead_50 ?_
    refine F_callV hX (st := []) (c_Mo_refuse_f E f443 F446 (-2) (-2) h447 (moK_fr hmk (FrF.tr (FrF.tr (FrF.tr (FrF.tr (FrF.tr (FrF.rf (S := [32])) k403 (by decide)) k415 (by decide)) k425 (by decide)) k439 (by decide)) k449 (by decide)) (by decide)) h448 (by omega)) cm_Mo_refuse im_Mo_refuse se_Mo_refuse rfl ml_Mo_354 d_Mo_readHead_52 (by decide) h447 rfl rfl (Nat.le_of_ble_eq_true rfl) (by decide) ?_
    rintro _ f459 ⟨rfl, F462, h463, h464, k465, k466⟩
    refine G_cast (st' := []) ?_ rfl rfl rfl rfl
    refine G_iinc_z hX (lv' := [(1, .int (zI (((0 + 1) + 1) + 1))), (2, .int (zI 0)), (0, .ref (eA E 61))]) 1 rfl (by decide) rfl d_Mo_readHead_55 ?_
    refine G_goto hX (tgt := 2) d_Mo_readHead_58 rfl ?_
    refine G_iload_n hX 0 rfl rfl d_Mo_readHead_2 ?_
    refine G_iconst hX d_Mo_readHead_3 ?_
    refine G_icmp_ge_z hX (tgt := 61) d_Mo_readHead_4 rfl (by omega) (fun c467 => by exfalso; omega) (fun c468 => ?_)
    refine G_aload_n hX 2 rfl rfl d_Mo_readHead_7 ?_
    refine F_callV hX (st := []) (c_Mo_readByte_f E f459 F462 (-2) h463 (moK_fr hmk (FrF.tr (FrF.tr (FrF.tr (FrF.tr (FrF.tr (FrF.tr (FrF.rf (S := [32])) k403 (by decide)) k415 (by decide)) k425 (by decide)) k439 (by decide)) k449 (by decide)) k465 (by decide)) (by decide)) h464 (by omega)) cm_Mo_readByte im_Mo_readByte se_Mo_readByte rfl ml_Mo_357 d_Mo_readHead_8 (by decide) h463 rfl rfl (Nat.le_of_ble_eq_true rfl) (by decide) ?_
    rintro _ f469 ⟨rfl, F472, h473, h474, k475, k476⟩
    refine G_cast (st' := [.int (zI 0)]) ?_ rfl rfl rfl rfl
    refine G_istore_n hX (lv' := [(2, .int (zI 0)), (1, .int (zI (((0 + 1) + 1) + 1))), (0, .ref (eA E 61))]) rfl (by decide) rfl d_Mo_readHead_11 ?_
    refine G_iload_n hX 0 rfl rfl d_Mo_readHead_12 ?_
    refine G_iload_n hX 1 rfl rfl d_Mo_readHead_13 ?_
    refine G_if_ne_z hX (tgt := 23) d_Mo_readHead_14 rfl (by omega) (fun c477 => ?_) (fun c478 => by exfalso; omega)
    refine G_iload_n hX 1 rfl rfl d_Mo_readHead_23 ?_
    refine G_iconst hX d_Mo_readHead_24 ?_
    refine G_icmp_ne_z hX (tgt := 34) d_Mo_readHead_25 rfl (by omega) (fun c479 => ?_) (fun c480 => by exfalso; omega)
    refine G_iload_n hX 1 rfl rfl d_Mo_readHead_34 ?_
    refine G_iconst hX d_Mo_readHead_35 ?_
    refine G_icmp_ne_z hX (tgt := 45) d_Mo_readHead_36 rfl (by omega) (fun c481 => ?_) (fun c482 => by exfalso; omega)
    refine G_iconst hX d_Mo_readHead_45 ?_
    refine G_icmp_eq_z hX (tgt := 55) d_Mo_readHead_46 rfl (by omega) (fun c483 => ?_) (fun c484 => by exfalso; omega)
    refine G_iinc_z hX (lv' := [(1, .int (zI ((((0 + 1) + 1) + 1) + 1))), (2, .int (zI 0)), (0, .ref (eA E 61))]) 1 rfl (by decide) rfl d_Mo_readHead_55 ?_
    refine G_goto hX (tgt := 2) d_Mo_readHead_58 rfl ?_
    refine G_iload_n hX 0 rfl rfl d_Mo_readHead_2 ?_
    refine G_iconst hX d_Mo_readHead_3 ?_
    refine G_icmp_ge_z hX (tgt := 61) d_Mo_readHead_4 rfl (by omega) (fun c485 => ?_) (fun c486 => by exfalso; omega)
    have h487 : F472 30 = .int (zI p) := (k475 30 (by decide)).trans ((k465 30 (by decide)).trans ((k449 30 (by decide)).trans ((k439 30 (by decide)).trans ((k425 30 (by decide)).trans ((k415 30 (by decide)).trans ((k403 30 (by decide)).trans hF30))))))
    exact F_vret hX hE d_Mo_readHead_61 ⟨rfl, F472, _, h473, h487, h474, (FrF.tr (FrF.tr (FrF.tr (FrF.tr (FrF.tr (FrF.tr (FrF.tr FrF.rf k403 (by decide)) k415 (by decide)) k425 (by decide)) k439 (by decide)) k449 (by decide)) k465 (by decide)) k475 (by decide)), (by omega), (Fr.tr (Fr.tr (Fr.tr (Fr.tr (Fr.tr (Fr.tr (Fr.tr Fr.rf k404 (by decide)) k416 (by decide)) k426 (by decide)) k440 (by decide)) k450 (by decide)) k466 (by decide)) k476 (by decide))⟩
theorem c_Mo_readWindows (E : EV) (f : Nat → va_E) (F : Nat → Value) (p0 : Int) (N : Int) (S : Int) (e : Int) (oc : Int) (nm : Int) (t : Int → Int) (tb : Int → Int) (ob : Int → Int) (o : Int → Int) (old : Int → Int) (m : Int → Int) (nr : Int → Int) (sm : Int → Int) (av : Int → Int) (ev : Int → Int) (b : Int → Int) (g : Int → Int) (sE : Int) (hMo : f 61 = mob F) (hmk : moK E F) (hF30 : F 30 = .int (zI p0)) (hF31 : F 31 = .int (zI e)) (hF32 : F 32 = .int (zI 0)) (hF34 : F 34 = .int (zI oc)) (hF37 : F 37 = .int (zI nm)) (hc81 : f 81 = iz E 1536 ob) (hc82 : f 82 = iz E 1536 o) (hc78 : f 78 = iz E 8 nr) (hc79 : f 79 = iz E 1024 sm) (hc83 : f 83 = iz E 3 av) (hc84 : f 84 = iz E 3 ev) (hc63 : f 63 = iz E 1600 b) (hc80 : f 80 = iz E 1536 tb) (hp : 0 ≤ p0 ∧ p0 ≤ e ∧ e ≤ sE ∧ sE ≤ 700) (hmc : 0 ≤ nm ∧ nm ≤ 1536 ∧ 0 ≤ oc ∧ oc ≤ 1536) (hN : 0 ≤ N ∧ N ≤ 8 ∧ 0 ≤ S ∧ S ≤ 4) (hold : agB ob old oc) (hoB : isB old) (hm0 : isB m) (htb : ∀ i, 0 ≤ i → i < 1536 → tb i = t i) (htB : isB t) (ht3 : ∀ i, 0 ≤ i → i < 512 → t i ≤ 3) (hG : isB g) (hgb : ∀ i, 0 ≤ i → i < sE → b (600 + i) = g i) : CF yn_Mo_readWindows cd_Mo_readWindows 3 none 7 E [.ref (eA E 61), .int (zI N), .int (zI S)] f (fun r f' => r = none ∧ ∃ (F' : Nat → Value) (pl' : Int) (st' : Int) (fl' : Int) (md' : Int) (o' : Int → Int) (nr' : Int → Int) (sm' : Int → Int) (av' : Int → Int) (ev' : Int → Int), f' 61 = mob F' ∧ F' 30 = .int (zI pl') ∧ F' 31 = .int (zI st') ∧ F' 32 = .int (zI fl') ∧ F' 36 = .int (zI md') ∧ FrF [25, 26, 27, 30, 31, 32, 36, 39, 40, 41, 42, 43] F F' ∧ f' 82 = iz E 1536 o' ∧ f' 78 = iz E 8 nr' ∧ f' 79 = iz E 1024 sm' ∧ f' 83 = iz E 3 av' ∧ f' 84 = iz E 3 ev' ∧ (fl' = (rdW g t old N S oc nm e 700 p0 m 0).1) ∧ (fl' = 0 → pl' = e ∧ st' = e ∧ md' = (rdW g t old N S oc nm e 700 p0 m 0).2.2 ∧ agB o' (rdW g t old N S oc nm e 700 p0 m 0).2.1 (rdW g t old N S oc nm e 700 p0 m 0).2.2) ∧ ((-1000000000 ≤ pl' ∧ pl' ≤ 1000000000) ∧ -1000000000 ≤ st' ∧ st' ≤ 1000000000) ∧ Fr [82, 78, 79, 83, 84, 61] f f') := by
  refine CF.of (by decide +kernel) (Nat.le_of_ble_eq_true rfl) fun X hX hE => ?_
  have hX : Ok E X "DeltaFerryModel" "readWindows" cd_Mo_readWindows 3 none (rl 7) := hX
  refine G_cast (lv' := [(0, .ref (eA E 61)), (1, .int (zI N)), (2, .int (zI S))]) ?_ rfl rfl rfl rfl
  refine G_aload_n hX 0 rfl rfl d_Mo_readWindows_0 ?_
  refine G_iconst hX d_Mo_readWindows_1 ?_
  refine M_put hX fg_Mo_386 fp_Mo_36 d_Mo_readWindows_2 hMo rfl rfl (by decide) (fun f1 F2 h3 h4 k5 k6 => ?_)
  have loop13 : ∀ (q : Nat) (i : Int) (p : Int) (m1 : Int → Int) (c1 : Int) (o1 : Int → Int) (nr1 : Int → Int) (sm1 : Int → Int) (av1 : Int → Int) (ev1 : Int → Int) (F7 : Nat → Value) (f14 : Nat → va_E), (e - p).toNat < q → (0 ≤ i ∧ p0 + i ≤ p ∧ p ≤ e) → (0 ≤ c1 ∧ c1 ≤ nm) → (agB o1 m1 c1) → (isB m1) → (rdW g t old N S oc nm e 700 p0 m 0 = rdW g t old N S oc nm e (700 - i).toNat p m1 c1) → (F7 30 = .int (zI p)) → (F7 31 = .int (zI e)) → (F7 32 = .int (zI 0)) → (F7 36 = .int (zI c1)) → (FrF [25, 26, 27, 30, 31, 32, 36, 39, 40, 41, 42, 43] F2 F7) → f14 82 = iz E 1536 o1 → f14 78 = iz E 8 nr1 → f14 79 = iz E 1024 sm1 → f14 83 = iz E 3 av1 → f14 84 = iz E 3 ev1 → f14 61 = mob F7 → Fr [82, 78, 79, 83, 84, 61] f1 f14 → G E X 0 0 5 [(0, .ref (eA E 61)), (1, .int (zI N)), (2, .int (zI S))] [] (wl E f14) := by
    intro q
    induction q with
    | zero => intro i p m1 c1 o1 nr1 sm1 av1 ev1 F7 f14 hms16; exact absurd hms16 (Nat.not_lt_zero _)
    | succ q ih17 =>
      intro i p m1 c1 o1 nr1 sm1 av1 ev1 F7 f14 hms16 hi hc1 ho1 hm1 hs h8 h9 h10 h11 k12 h18 h19 h20 h21 h22 h23 k15
      refine G_aload_n hX 0 rfl rfl d_Mo_readWindows_5 ?_
      refine M_get hX fg_Mo_348 d_Mo_readWindows_6 h23 (by decide) h8 ?_
      refine G_aload_n hX 0 rfl rfl d_Mo_readWindows_9 ?_
      refine M_get hX fg_Mo_351 d_Mo_readWindows_10 h23 (by decide) h9 ?_
      refine G_icmp_ge_z hX (tgt := 32) d_Mo_readWindows_13 rfl (by omega) (fun c24 => ?_) (fun c25 => ?_)
      · skip
        have hpe : p = e := by omega
        rw [rdW_e (Or.inr (by omega))] at hs
        exact F_vret hX hE d_Mo_readWindows_32 ⟨rfl, F7, _, _, _, _, _, _, _, _, _, h23, h8, h9, h10, h11, (FrF.tr (FrF.tr FrF.rf k5 (by decide)) k12 (by decide)), h18, h19, h20, h21, h22, (by rw [hs]), (fun _ => ⟨hpe, rfl, by rw [hs], by rw [hs]; exact ho1⟩), (by omega), (Fr.tr (Fr.tr Fr.rf k6 (by decide)) k15 (by decide))⟩
      · skip
        refine G_aload_n hX 0 rfl rfl d_Mo_readWindows_16 ?_
        refine M_get hX fg_Mo_345 d_Mo_readWindows_17 h23 (by decide) h10 ?_
        refine G_if_ne_z hX (tgt := 32) d_Mo_readWindows_20 rfl (by omega) (fun c26 => by exfalso; omega) (fun c27 => ?_)
        refine G_aload_n hX 0 rfl rfl d_Mo_readWindows_23 ?_
        refine G_iload_n hX 1 rfl rfl d_Mo_readWindows_24 ?_
        refine G_iload_n hX 2 rfl rfl d_Mo_readWindows_25 ?_
        have h28 : F7 37 = .int (zI nm) := (k12 37 (by decide)).trans ((k5 37 (by decide)).trans hF37)
        have h29 : F7 34 = .int (zI oc) := (k12 34 (by decide)).trans ((k5 34 (by decide)).trans hF34)
        have h30 : f14 81 = iz E 1536 ob := (k15 81 (by decide)).trans ((k6 81 (by decide)).trans hc81)
        have h31 : f14 63 = iz E 1600 b := (k15 63 (by decide)).trans ((k6 63 (by decide)).trans hc63)
        have h32 : f14 80 = iz E 1536 tb := (k15 80 (by decide)).trans ((k6 80 (by decide)).trans hc80)
        refine F_callV hX (st := []) (c_Mo_readWindow E f14 F7 N S p e c1 oc nm t tb ob o1 old m1 nr1 sm1 av1 ev1 b g sE h23 (moK_fr hmk (FrF.tr (FrF.tr (FrF.rf (S := [25, 26, 27, 30, 31, 32, 36, 39, 40, 41, 42, 43])) k5 (by decide)) k12 (by decide)) (by decide)) h8 h9 h10 h29 h11 h28 h30 h18 h19 h20 h21 h22 h31 h32 (by omega) (by omega) (by omega) hold ho1 hoB hm1 htb htB ht3 hG hgb) cm_Mo_readWindow im_Mo_readWindow se_Mo_readWindow rfl ml_Mo_413 d_Mo_readWindows_26 (by decide) h23 rfl rfl (Nat.le_of_ble_eq_true rfl) (by decide) ?_
        rintro _ f33 ⟨rfl, F36, pl'_37, st'_38, fl'_39, md'_40, o'_41, nr'_42, sm'_43, av'_44, ev'_45, h46, h47, h48, h49, h50, k51, h52, h53, h54, h55, h56, p57, p58, p59, k60⟩
        refine G_cast (st' := []) ?_ rfl rfl rfl rfl
        by_cases qf : fl'_39 = 0
        · skip
          have hda : hdA g p e c1 oc nm = 0 := by by_cases q9 : hdA g p e c1 oc nm = 0; exact q9; rw [qf, if_pos q9] at p57; exact absurd p57.symm q9
          have hme : mkE (hdK g p e c1) (mkF (hdK g p e c1) g t old N S m1) = 0 := by rw [qf, if_neg (fun q9 => q9 hda)] at p57; exact p57.symm
          have hgd := p58 qf
          have hkk := hdK_ok hG (show 0 ≤ p ∧ p ≤ e ∧ e ≤ 700 by omega) hda
          have h61 : F36 32 = .int (zI 0) := h49.trans (congrArg (fun z => Value.int (zI z)) (qf))
          have h62 : F36 30 = .int (zI (wE g p e)) := h47.trans (congrArg (fun z => Value.int (zI z)) (hgd.1))
          have h63 : F36 31 = .int (zI e) := h48.trans (congrArg (fun z => Value.int (zI z)) (hgd.2.1))
          have h64 : F36 36 = .int (zI (c1 + kZ (hdK g p e c1))) := h50.trans (congrArg (fun z => Value.int (zI z)) (hgd.2.2.1))
          refine G_goto hX (tgt := 5) d_Mo_readWindows_29 rfl ?_
          exact ih17 (i + 1) (wE g p e) (mkM m1 (mkF (hdK g p e c1) g t old N S m1)) (c1 + kZ (hdK g p e c1)) o'_41 nr'_42 sm'_43 av'_44 ev'_45 F36 f33 (by omega) (by omega) (by omega) hgd.2.2.2 (mkM_B hG hoB hm1) (hs.trans (rdW_s (by omega) (by omega) hda hme)) h62 h63 h61 h64 (FrF.tr (FrF.tr FrF.rf k12 (by decide)) k51 (by decide)) h52 h53 h54 h55 h56 h46 (Fr.tr (Fr.tr Fr.rf k15 (by decide)) k60 (by decide))
        · skip
          have hrd : (rdW g t old N S oc nm e 700 p0 m 0).1 = fl'_39 := by
            rw [hs]
            by_cases q9 : hdA g p e c1 oc nm = 0
            · rw [if_neg (fun q8 => q8 q9)] at p57; rw [rdW_m (by omega) (by omega) q9 (by rw [← p57]; exact qf)]; exact p57.symm
            · rw [if_pos q9] at p57; rw [rdW_h (by omega) (by omega) q9]; exact p57.symm
          have hfb : -10 ≤ fl'_39 ∧ fl'_39 ≤ 0 := by rw [p57]; have h8 := hdA_b g p e c1 oc nm; have h9 := mkE_b (hdK g p e c1) (mkF (hdK g p e c1) g t old N S m1); split <;> omega
          have hbb := p59
          refine G_goto hX (tgt := 5) d_Mo_readWindows_29 rfl ?_
          refine G_aload_n hX 0 rfl rfl d_Mo_readWindows_5 ?_
          refine M_get hX fg_Mo_348 d_Mo_readWindows_6 h46 (by decide) h47 ?_
          refine G_aload_n hX 0 rfl rfl d_Mo_readWindows_9 ?_
          refine M_get hX fg_Mo_351 d_Mo_readWindows_10 h46 (by decide) h48 ?_
          refine G_icmp_ge_z hX (tgt := 32) d_Mo_readWindows_13 rfl (by omega) (fun c65 => ?_) (fun c66 => ?_)
          · skip
            exact F_vret hX hE d_Mo_readWindows_32 ⟨rfl, F36, _, _, _, _, _, _, _, _, _, h46, h47, h48, h49, h50, (FrF.tr (FrF.tr (FrF.tr FrF.rf k5 (by decide)) k12 (by decide)) k51 (by decide)), h52, h53, h54, h55, h56, hrd.symm, (fun q8 => absurd q8 qf), p59, (Fr.tr (Fr.tr (Fr.tr Fr.rf k6 (by decide)) k15 (by decide)) k60 (by decide))⟩
          · skip
            refine G_aload_n hX 0 rfl rfl d_Mo_readWindows_16 ?_
            refine M_get hX fg_Mo_345 d_Mo_readWindows_17 h46 (by decide) h49 ?_
            refine G_if_ne_z hX (tgt := 32) d_Mo_readWindows_20 rfl (by omega) (fun c67 => ?_) (fun c68 => by exfalso; omega)
            exact F_vret hX hE d_Mo_readWindows_32 ⟨rfl, F36, _, _, _, _, _, _, _, _, _, h46, h47, h48, h49, h50, (FrF.tr (FrF.tr (FrF.tr FrF.rf k5 (by decide)) k12 (by decide)) k51 (by decide)), h52, h53, h54, h55, h56, hrd.symm, (fun q8 => absurd q8 qf), p59, (Fr.tr (Fr.tr (Fr.tr Fr.rf k6 (by decide)) k15 (by decide)) k60 (by decide))⟩
  have h69 : F2 30 = .int (zI p0) := (k5 30 (by decide)).trans hF30
  have h70 : F2 31 = .int (zI e) := (k5 31 (by decide)).trans hF31
  have h71 : F2 32 = .int (zI 0) := (k5 32 (by decide)).trans hF32
  have h72 : f1 82 = iz E 1536 o := (k6 82 (by decide)).trans hc82
  have h73 : f1 78 = iz E 8 nr := (k6 78 (by decide)).trans hc78
  have h74 : f1 79 = iz E 1024 sm := (k6 79 (by decide)).trans hc79
  have h75 : f1 83 = iz E 3 av := (k6 83 (by decide)).trans hc83
  have h76 : f1 84 = iz E 3 ev := (k6 84 (by decide)).trans hc84
  exact loop13 (_ + 1) 0 p0 m 0 o nr sm av ev F2 f1 (Nat.lt_succ_self _) (by omega) (by omega) (fun j h1 h2 => by omega) hm0 rfl h69 h70 h71 h4 FrF.rf h72 h73 h74 h75 h76 h3 Fr.rf
theorem c_Mo_readWindows_f (E : EV) (f : Nat → va_E) (F : Nat → Value) (N : Int) (S : Int) (pp : Int) (ss : Int) (fl : Int) (hMo : f 61 = mob F) (hmk : moK E F) (hF30 : F 30 = .int (zI pp)) (hF31 : F 31 = .int (zI ss)) (hF32 : F 32 = .int (zI fl)) (hfl : fl ≠ 0 ∧ -10 ≤ fl ∧ fl ≤ 0) (hb : (-1000000000 ≤ pp ∧ pp ≤ 1000000000) ∧ -1000000000 ≤ ss ∧ ss ≤ 1000000000) : CF yn_Mo_readWindows cd_Mo_readWindows 3 none 7 E [.ref (eA E 61), .int (zI N), .int (zI S)] f (fun r f' => r = none ∧ ∃ (F' : Nat → Value), f' 61 = mob F' ∧ F' 36 = .int (zI 0) ∧ FrF [36] F F' ∧ Fr [61] f f') := by
  refine CF.of (by decide +kernel) (Nat.le_of_ble_eq_true rfl) fun X hX hE => ?_
  have hX : Ok E X "DeltaFerryModel" "readWindows" cd_Mo_readWindows 3 none (rl 7) := hX
  refine G_cast (lv' := [(0, .ref (eA E 61)), (1, .int (zI N)), (2, .int (zI S))]) ?_ rfl rfl rfl rfl
  refine G_aload_n hX 0 rfl rfl d_Mo_readWindows_0 ?_
  refine G_iconst hX d_Mo_readWindows_1 ?_
  refine M_put hX fg_Mo_386 fp_Mo_36 d_Mo_readWindows_2 hMo rfl rfl (by decide) (fun f1 F2 h3 h4 k5 k6 => ?_)
  refine G_aload_n hX 0 rfl rfl d_Mo_readWindows_5 ?_
  have h7 : F2 30 = .int (zI pp) := (k5 30 (by decide)).trans hF30
  refine M_get hX fg_Mo_348 d_Mo_readWindows_6 h3 (by decide) h7 ?_
  refine G_aload_n hX 0 rfl rfl d_Mo_readWindows_9 ?_
  have h8 : F2 31 = .int (zI ss) := (k5 31 (by decide)).trans hF31
  refine M_get hX fg_Mo_351 d_Mo_readWindows_10 h3 (by decide) h8 ?_
  refine G_icmp_ge_z hX (tgt := 32) d_Mo_readWindows_13 rfl (by omega) (fun c9 => ?_) (fun c10 => ?_)
  · skip
    exact F_vret hX hE d_Mo_readWindows_32 ⟨rfl, F2, h3, h4, (FrF.tr FrF.rf k5 (by decide)), (Fr.tr Fr.rf k6 (by decide))⟩
  · skip
    refine G_aload_n hX 0 rfl rfl d_Mo_readWindows_16 ?_
    have h11 : F2 32 = .int (zI fl) := (k5 32 (by decide)).trans hF32
    refine M_get hX fg_Mo_345 d_Mo_readWindows_17 h3 (by decide) h11 ?_
    refine G_if_ne_z hX (tgt := 32) d_Mo_readWindows_20 rfl (by omega) (fun c12 => ?_) (fun c13 => by exfalso; omega)
    exact F_vret hX hE d_Mo_readWindows_32 ⟨rfl, F2, h3, h4, (FrF.tr FrF.rf k5 (by decide)), (Fr.tr Fr.rf k6 (by decide))⟩
