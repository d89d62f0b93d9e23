/-! DeltaFerryModel: its object as a function of the field's number -/
abbrev mob (F : Nat → Value) : va_E := ob 12 ((List.range 51).map F)
def FrF (S : List Nat) (F F' : Nat → Value) : Prop := ∀ x, x ∉ S → F' x = F x
theorem FrF.rf {S : List Nat} {F : Nat → Value} : FrF S F F := fun _ _ => rfl
theorem FrF.tr {S S1 : List Nat} {F F' F'' : Nat → Value} (h : FrF S F F') (h1 : FrF S1 F' F'') (hs : ∀ x ∈ S1, x ∈ S) : FrF S F F'' := fun x hx => (h1 x (fun q => hx (hs x q))).trans (h x hx)
def moT : List (Nat × Nat) := [(0, 62), (1, 63), (2, 64), (3, 65), (8, 66), (9, 67), (10, 68), (14, 69), (15, 70), (16, 71), (17, 72), (19, 73), (20, 74), (22, 75), (23, 76), (24, 77), (28, 78), (29, 79), (33, 80), (35, 81), (38, 82), (44, 83), (45, 84)]
def moK (E : EV) (F : Nat → Value) : Prop := ∀ j i, (j, i) ∈ moT → F j = .ref (eA E i)
theorem moK_fr {E : EV} {S : List Nat} {F F' : Nat → Value} (h : moK E F) (k : FrF S F F') (hs : ∀ p ∈ moT, p.1 ∉ S) : moK E F' := fun j i hm => (k j (hs _ hm)).trans (h j i hm)
theorem mo_at {F : Nat → Value} {j : Nat} {v : Value} (hj : j < 51) (hv : F j = v) : ((List.range 51).map F)[j]? = some v := by
  rw [List.getElem?_map, List.getElem?_range hj]
  exact congrArg some hv
theorem mo_set {F : Nat → Value} {j : Nat} {v : Value} : ((List.range 51).map F).set j v = (List.range 51).map (fun x => if x = j then v else F x) := by
  apply List.ext_getElem?
  intro i
  by_cases hi : i < 51
  · by_cases hij : j = i
    · subst hij
      rw [List.getElem?_set_self (by simp [hi]), List.getElem?_map, List.getElem?_range hi]
      simp
    · rw [List.getElem?_set_ne hij, List.getElem?_map, List.getElem?_map, List.getElem?_range hi]
      have : ¬ i = j := fun q => hij q.symm
      simp [this]
  · rw [List.getElem?_eq_none (by simp; omega), List.getElem?_eq_none (by simp; omega)]
section MO
variable {E : EV} {X : XT} {own nm : String} {cc : ByteArray} {nL : Nat} {ret : Option FieldType} {d pc : Nat} {lv lv' : List (Nat × Value)} {st : List Value} {f : Nat → va_E}
theorem M_get (hX : Ok E X own nm cc nL ret (rl d)) {idx j : Nat} (hF : FG own idx 12 j) (hd : decode cc pc = .ok (.getfield idx, 3)) {F : Nat → Value} {v : Value} (he : f 61 = mob F) (hj : j < 51) (hv : F j = v) (kk : G E X 0 0 (pc + 3) lv (v :: st) (wl E f)) : G E X 0 0 pc lv (.ref (eA E 61) :: st) (wl E f) := F_get hX hF hd 61 (by decide) he (mo_at hj hv) kk
theorem M_put (hX : Ok E X own nm cc nL ret (rl d)) {idx j : Nat} {ty : FieldType} (hF : FG own idx 12 j) (hF2 : FP 12 j ty) (hd : decode cc pc = .ok (.putfield idx, 3)) {F : Nat → Value} {v : Value} (he : f 61 = mob F) (hn : narrow ty v = v) (hf : fits ty v = true) (hj : j < 51) (kk : ∀ (f' : Nat → va_E) (F' : Nat → Value), f' 61 = mob F' → F' j = v → FrF [j] F F' → Fr [61] f f' → G E X 0 0 (pc + 3) lv st (wl E f')) : G E X 0 0 pc lv (v :: .ref (eA E 61) :: st) (wl E f) := by
  refine F_put hX hF hF2 hd 61 (by decide) he hn hf (by simp [hj]) mo_set (fun f' h1 h2 => ?_)
  exact kk f' _ h1 (by simp) (fun x hx => by have : ¬ x = j := fun q => hx (by rw [q]; exact List.mem_singleton.mpr rfl); simp [this]) h2
end MO
theorem c_Mo_base (E : EV) (f : Nat → va_E) (k : Int) (hk : 0 ≤ k ∧ k ≤ 3) : CF yn_Mo_base cd_Mo_base 1 (some (.int)) 0 E [.int (zI k)] f (fun r f' => r = some (.int (zI (if k < 3 then 300 * k else 1300))) ∧ f' = f) := by
  refine CF.of (by decide +kernel) (Nat.le_of_ble_eq_true rfl) fun X hX hE => ?_
  have hX : Ok E X "DeltaFerryModel" "base" cd_Mo_base 1 (some (.int)) (rl 0) := hX
  refine G_cast (lv' := [(0, .int (zI k))]) ?_ rfl rfl rfl rfl
  refine G_iload_n hX 0 rfl rfl d_Mo_base_0 ?_
  refine G_iconst hX d_Mo_base_1 ?_
  refine G_icmp_ge_z hX (tgt := 13) d_Mo_base_2 rfl (by omega) (fun c1 => ?_) (fun c2 => ?_)
  · skip
    refine G_sipush hX (by decide) d_Mo_base_13 ?_
    exact F_iret hX hE d_Mo_base_16 ⟨by rw [if_neg (by omega)], rfl⟩
  · skip
    refine G_sipush hX (by decide) d_Mo_base_5 ?_
    refine G_iload_n hX 0 rfl rfl d_Mo_base_8 ?_
    refine G_imul_z hX d_Mo_base_9 ?_
    refine G_goto hX (tgt := 16) d_Mo_base_10 rfl ?_
    exact F_iret hX hE d_Mo_base_16 ⟨by rw [if_pos (by omega)], rfl⟩
theorem c_Mo_room (E : EV) (f : Nat → va_E) (k : Int) (hk : -2147483648 ≤ k ∧ k < 2147483648) : CF yn_Mo_room cd_Mo_room 1 (some (.int)) 0 E [.int (zI k)] f (fun r f' => r = some (.int (zI (if k = 2 then 700 else 300))) ∧ f' = f) := by
  refine CF.of (by decide +kernel) (Nat.le_of_ble_eq_true rfl) fun X hX hE => ?_
  have hX : Ok E X "DeltaFerryModel" "room" cd_Mo_room 1 (some (.int)) (rl 0) := hX
  refine G_cast (lv' := [(0, .int (zI k))]) ?_ rfl rfl rfl rfl
  refine G_iload_n hX 0 rfl rfl d_Mo_room_0 ?_
  refine G_iconst hX d_Mo_room_1 ?_
  refine G_icmp_ne_z hX (tgt := 11) d_Mo_room_2 rfl (by omega) (fun c1 => ?_) (fun c2 => ?_)
  · skip
    refine G_sipush hX (by decide) d_Mo_room_11 ?_
    exact F_iret hX hE d_Mo_room_14 ⟨by rw [if_neg (by omega)], rfl⟩
  · skip
    refine G_sipush hX (by decide) d_Mo_room_5 ?_
    refine G_goto hX (tgt := 14) d_Mo_room_8 rfl ?_
    exact F_iret hX hE d_Mo_room_14 ⟨by rw [if_pos (by omega)], rfl⟩
theorem c_Mo_isFile (E : EV) (f : Nat → va_E) (k : Int) (hk : -2147483648 ≤ k ∧ k < 2147483648) : CF yn_Mo_isFile cd_Mo_isFile 1 (some (.boolean)) 0 E [.int (zI k)] f (fun r f' => r = some (.int (zI (if 0 ≤ k ∧ k ≤ 3 then 1 else 0))) ∧ f' = f) := by
  refine CF.of (by decide +kernel) (Nat.le_of_ble_eq_true rfl) fun X hX hE => ?_
  have hX : Ok E X "DeltaFerryModel" "isFile" cd_Mo_isFile 1 (some (.boolean)) (rl 0) := hX
  refine G_cast (lv' := [(0, .int (zI k))]) ?_ rfl rfl rfl rfl
  refine G_iload_n hX 0 rfl rfl d_Mo_isFile_0 ?_
  refine G_if_lt_z hX (tgt := 13) d_Mo_isFile_1 rfl (by omega) (fun c1 => ?_) (fun c2 => ?_)
  · skip
    refine G_iconst hX d_Mo_isFile_13 ?_
    exact F_zret hX hE (by decide) d_Mo_isFile_14 ⟨by rw [if_neg (by omega)], rfl⟩
  · skip
    refine G_iload_n hX 0 rfl rfl d_Mo_isFile_4 ?_
    refine G_iconst hX d_Mo_isFile_5 ?_
    refine G_icmp_gt_z hX (tgt := 13) d_Mo_isFile_6 rfl (by omega) (fun c3 => ?_) (fun c4 => ?_)
    · skip
      refine G_iconst hX d_Mo_isFile_13 ?_
      exact F_zret hX hE (by decide) d_Mo_isFile_14 ⟨by rw [if_neg (by omega)], rfl⟩
    · skip
      refine G_iconst hX d_Mo_isFile_9 ?_
      refine G_goto hX (tgt := 14) d_Mo_isFile_10 rfl ?_
      exact F_zret hX hE (by decide) d_Mo_isFile_14 ⟨by rw [if_pos (by omega)], rfl⟩
theorem c_Mo_changed (E : EV) (f : Nat → va_E) (F : Nat → Value) (k : Int) (pl : Int) (hMo : f 61 = mob F) (hmk : moK E F) (hF11 : F 11 = .int (zI pl)) (hk : -2147483648 ≤ k ∧ k < 2147483648) : CF yn_Mo_changed cd_Mo_changed 2 none 0 E [.ref (eA E 61), .int (zI k)] f (fun r f' => r = none ∧ ∃ (F' : Nat → Value), f' 61 = mob F' ∧ F' 11 = .int (zI (if k = 1 then -1 else pl)) ∧ FrF [11] F F' ∧ Fr [61] f f') := by
  refine CF.of (by decide +kernel) (Nat.le_of_ble_eq_true rfl) fun X hX hE => ?_
  have hX : Ok E X "DeltaFerryModel" "changed" cd_Mo_changed 2 none (rl 0) := hX
  refine G_cast (lv' := [(0, .ref (eA E 61)), (1, .int (zI k))]) ?_ rfl rfl rfl rfl
  refine G_aload_n hX 0 rfl rfl d_Mo_changed_0 ?_
  refine G_iload_n hX 1 rfl rfl d_Mo_changed_1 ?_
  refine G_iconst hX d_Mo_changed_2 ?_
  refine G_icmp_ne_z hX (tgt := 10) d_Mo_changed_3 rfl (by omega) (fun c1 => ?_) (fun c2 => ?_)
  · skip
    refine G_aload_n hX 0 rfl rfl d_Mo_changed_10 ?_
    refine M_get hX fg_Mo_100 d_Mo_changed_11 hMo (by decide) hF11 ?_
    refine M_put hX fg_Mo_100 fp_Mo_11 d_Mo_changed_14 hMo rfl rfl (by decide) (fun f3 F4 h5 h6 k7 k8 => ?_)
    exact F_vret hX hE d_Mo_changed_17 ⟨rfl, F4, h5, (by rw [if_neg (by omega)]; exact h6), (FrF.tr FrF.rf k7 (by decide)), (Fr.tr Fr.rf k8 (by decide))⟩
  · skip
    refine G_iconst hX d_Mo_changed_6 ?_
    refine G_goto hX (tgt := 14) d_Mo_changed_7 rfl ?_
    refine M_put hX fg_Mo_100 fp_Mo_11 d_Mo_changed_14 hMo rfl rfl (by decide) (fun f9 F10 h11 h12 k13 k14 => ?_)
    exact F_vret hX hE d_Mo_changed_17 ⟨rfl, F10, h11, (by rw [if_pos (by omega)]; exact h12), (FrF.tr FrF.rf k13 (by decide)), (Fr.tr Fr.rf k14 (by decide))⟩
