/-- the law's own end -/
def LQ (X : XT) : Prop := match X with
  | (_, _, _, _, s, _, args, below, _, _, A, Q) => A = (fun q => s.heap.size ≤ q) ∧ ∃ b : Nat, args = #[.ref b] ∧ Q = lw_Z below #[.ref b] s
section LOOP
variable {E : EV} {X : XT} {nm : String} {k n b L : Nat} {xs : Nat → Int32}
theorem L_end {lv : List (Nat × Value)} {ws : va_W} (hX : Ok E X "DeltaFerryLaw" nm code 4 (some .boolean) room_1) (hQ : LQ X) (hkn : k ≤ 600000 ∧ n ≤ 7302250) : G E X k n 634 lv [] ws := by
  refine G_iconst hX d_La_law_634 ?_
  obtain ⟨p, l, e, R, s, m, args, below, meth, c, A, Q⟩ := X
  obtain ⟨hx, hb, hml, hown, hts, hr, hlo, hR, hK, hN, hT, hA, hnm⟩ := hX
  obtain ⟨hA2, b2, hargs, hQ2⟩ := hQ
  subst hR
  subst hargs
  subst hQ2
  subst hA2
  intro ls H locs hl hP hD hS
  refine va_forget (fun q hq => hS.2.2 q hq) ?_
  refine W.widen (k := 600000) (n := 7302250) hkn.1 hkn.2 ?_
  exact lw_ret hx hb hr hlo d_La_law_635
theorem L_head {i : Nat} {ws : va_W} (hX : Ok E X "DeltaFerryLaw" nm code 4 (some .boolean) room_1) (hs : Scr X b L xs) (hQ : LQ X) (hkn : k ≤ 600000 ∧ n ≤ 7302250) (hL : L ≤ 2560) (hi : i ≤ 2565) (kk : i + 5 ≤ L → G E X k n 26 (lvL E b i) [] ws) : G E X k n 18 (lvL E b i) [] ws := by
  refine G_iload_n hX 0 rfl rfl d_La_law_18 ?_
  refine G_aload_n hX 3 rfl rfl d_La_law_19 ?_
  refine G_slen hX hs d_La_law_20 ?_
  refine G_iconst hX d_La_law_21 ?_
  refine G_isub_z hX d_La_law_22 ?_
  exact G_icmp_gt_z hX d_La_law_23 rfl ⟨by omega, by omega, by omega, by omega⟩ (fun _ => L_end hX hQ hkn) (fun h => kk (by omega))
theorem L_body {i : Nat} {f : Nat → va_E} (hX : Ok E X "DeltaFerryLaw" nm code 4 (some .boolean) room_1) (hs : Scr X b L xs) (hi : i + 5 ≤ L) (hL : L ≤ 2560) (hkn : k ≤ 600000 ∧ n ≤ 7302250) (hG : Good E stZ f) (kk : ∀ f2, Good E stZ f2 → G E X k n 628 (lvL E b i) [] (wl E f2)) : G E X k n 26 (lvL E b i) [] (wl E f) := by
  refine G_aload_n hX 3 rfl rfl d_La_law_26 ?_
  refine G_iload_n hX 0 rfl rfl d_La_law_27 ?_
  refine G_sld hX hs (zI_in ⟨by omega, by omega, by omega⟩) d_La_law_28 ?_
  rw [zI_cl ⟨by omega, by omega⟩, Int.toNat_natCast, ← zI_self (xs i)]
  refine G_bipush hX (by decide) d_La_law_29 ?_
  refine G_iand hX d_La_law_31 ?_
  rw [zI_and15]
  have hv : 0 ≤ (xs i).toInt % 16 ∧ (xs i).toInt % 16 < 16 := by omega
  revert hv
  generalize (xs i).toInt % 16 = v
  intro hv
  rcases (show v = 0 ∨ v = 1 ∨ v = 2 ∨ v = 3 ∨ v = 4 ∨ v = 5 ∨ v = 6 ∨ v = 7 ∨ v = 8 ∨ v = 9 ∨ v = 10 ∨ v = 11 ∨ v = 12 ∨ v = 13 ∨ v = 14 ∨ v = 15 by omega) with rfl | rfl | rfl | rfl | rfl | rfl | rfl | rfl | rfl | rfl | rfl | rfl | rfl | rfl | rfl | rfl
  · exact G_tblIn hX (off := 80) d_La_law_32 (by decide +kernel) (by decide +kernel) (by decide +kernel) (by decide +kernel) (lc_0 hX hs hi hL hkn hG kk)
  · exact G_tblIn hX (off := 153) d_La_law_32 (by decide +kernel) (by decide +kernel) (by decide +kernel) (by decide +kernel) (lc_1 hX hs hi hL hkn hG kk)
  · exact G_tblIn hX (off := 196) d_La_law_32 (by decide +kernel) (by decide +kernel) (by decide +kernel) (by decide +kernel) (lc_2 hX hs hi hL hkn hG kk)
  · exact G_tblIn hX (off := 229) d_La_law_32 (by decide +kernel) (by decide +kernel) (by decide +kernel) (by decide +kernel) (lc_3 hX hs hi hL hkn hG kk)
  · exact G_tblIn hX (off := 252) d_La_law_32 (by decide +kernel) (by decide +kernel) (by decide +kernel) (by decide +kernel) (lc_4 hX hs hi hL hkn hG kk)
  · exact G_tblIn hX (off := 275) d_La_law_32 (by decide +kernel) (by decide +kernel) (by decide +kernel) (by decide +kernel) (lc_5 hX hs hi hL hkn hG kk)
  · exact G_tblIn hX (off := 308) d_La_law_32 (by decide +kernel) (by decide +kernel) (by decide +kernel) (by decide +kernel) (lc_6 hX hs hi hL hkn hG kk)
  · exact G_tblIn hX (off := 342) d_La_law_32 (by decide +kernel) (by decide +kernel) (by decide +kernel) (by decide +kernel) (lc_7 hX hs hi hL hkn hG kk)
  · exact G_tblIn hX (off := 386) d_La_law_32 (by decide +kernel) (by decide +kernel) (by decide +kernel) (by decide +kernel) (lc_8 hX hs hi hL hkn hG kk)
  · exact G_tblIn hX (off := 409) d_La_law_32 (by decide +kernel) (by decide +kernel) (by decide +kernel) (by decide +kernel) (lc_9 hX hs hi hL hkn hG kk)
  · exact G_tblIn hX (off := 432) d_La_law_32 (by decide +kernel) (by decide +kernel) (by decide +kernel) (by decide +kernel) (lc_10 hX hs hi hL hkn hG kk)
  · exact G_tblIn hX (off := 465) d_La_law_32 (by decide +kernel) (by decide +kernel) (by decide +kernel) (by decide +kernel) (lc_11 hX hs hi hL hkn hG kk)
  · exact G_tblIn hX (off := 498) d_La_law_32 (by decide +kernel) (by decide +kernel) (by decide +kernel) (by decide +kernel) (lc_12 hX hs hi hL hkn hG kk)
  · exact G_tblIn hX (off := 537) d_La_law_32 (by decide +kernel) (by decide +kernel) (by decide +kernel) (by decide +kernel) (lc_13 hX hs hi hL hkn hG kk)
  · exact G_tblIn hX (off := 550) d_La_law_32 (by decide +kernel) (by decide +kernel) (by decide +kernel) (by decide +kernel) (lc_14 hX hs hi hL hkn hG kk)
  · exact G_tblIn hX (off := 583) d_La_law_32 (by decide +kernel) (by decide +kernel) (by decide +kernel) (by decide +kernel) (lc_15 hX hs hi hL hkn hG kk)
theorem L_loop (hX : Ok E X "DeltaFerryLaw" nm code 4 (some .boolean) room_1) (hs : Scr X b L xs) (hQ : LQ X) (hkn : k ≤ 600000 ∧ n ≤ 7302250) (hL : L ≤ 2560) : ∀ (t i : Nat) (f : Nat → va_E), i ≤ 2565 → L ≤ i + t → Good E stZ f → G E X k n 18 (lvL E b i) [] (wl E f) := by
  intro t
  induction t with
  | zero =>
    intro i f hi ht hG
    exact L_head hX hs hQ hkn hL hi (fun h => absurd h (by omega))
  | succ t ih =>
    intro i f hi ht hG
    refine L_head hX hs hQ hkn hL hi (fun h => L_body hX hs h hL hkn hG (fun f2 hg => ?_))
    refine G_iinc_z (lv' := lvL E b (i + 5)) hX 0 rfl (by decide) ?_ d_La_law_628 ?_
    · rw [show ((i : Int) + 5) = ((i + 5 : Nat) : Int) by omega]
      rfl
    · exact G_goto hX d_La_law_631 rfl (ih (i + 5) f2 (by omega) (by omega) hg)
end LOOP
theorem whole_start {p : Program} {e : Env} {s : State} {m : MethodId} {below : List Frame} {meth : Method} {c : Code} (l : Launch) {b L : Nat} {xs : Nat → Int32} (hL : L ≤ 2560) (C0 : lw_At p s m meth c b L xs) : W p l e room_1 s m #[Value.ref b] below meth c s.heap [] 0 0 (lw_Z below #[Value.ref b] s) (entryFrame m ([Value.ref b] : List Value).toArray 4) := by
  obtain ⟨hx, hb, hr, hml, hown, hts, hsc, hbl, hlo, hg⟩ := C0
  have htb : ∀ w ∈ lw_tb, w.before #[Value.ref b] s = true := fun w h => hts w (lw_tb_tbl w h)
  have hao : va_AO "DeltaFerry$Row" s := va_AO.of (hts _ aom)
  obtain ⟨D, cI, cJ, cR, hK⟩ := lw_K htb hao
  have hA : ∀ a : Nat, a < s.heap.size → ¬ s.heap.size ≤ a := fun a h => Nat.not_le.mpr h
  obtain ⟨tK, hk1, hk2⟩ := lw_st_K (A := fun q => s.heap.size ≤ q) hts hg hA
  obtain ⟨tT, ht1, ht2⟩ := lw_st_TURNS (A := fun q => s.heap.size ≤ q) hts hg hA
  have hX : Ok (D, (cI, cJ, cR), (fun _ => 0), (tK, tT)) (p, l, e, room_1, s, m, #[Value.ref b], below, meth, c, (fun q => s.heap.size ≤ q), lw_Z below #[Value.ref b] s) "DeltaFerryLaw" meth.name code 4 (some .boolean) room_1 :=
    ⟨hx, hb, hml, hown, htb, hr, hlo, rfl, hK, lw_NW hts, ⟨hk1, hk2, ht1, ht2⟩, fun q h => h, rfl⟩
  have hG : G (D, (cI, cJ, cR), (fun _ => 0), (tK, tT)) (p, l, e, room_1, s, m, #[Value.ref b], below, meth, c, (fun q => s.heap.size ≤ q), lw_Z below #[Value.ref b] s) 0 0 0 [(0, .ref b)] [] [] := by
    refine lw_begin hX hao ?_
    intro α x0 x1 x2 x3 x4 x5 x6
    have hX2 : Ok (withA (D, (cI, cJ, cR), (fun _ => 0), (tK, tT)) α) (p, l, e, room_1, s, m, #[Value.ref b], below, meth, c, (fun q => s.heap.size ≤ q), lw_Z below #[Value.ref b] s) "DeltaFerryLaw" meth.name code 4 (some .boolean) room_1 :=
      ⟨hx, hb, hml, hown, htb, hr, hlo, rfl, hK, lw_NW hts, ⟨hk1, hk2, ht1, ht2⟩, fun q h => h, rfl⟩
    exact L_loop (E := withA (D, (cI, cJ, cR), (fun _ => 0), (tK, tT)) α) hX2 ⟨hsc, hbl, hA b hbl⟩ ⟨rfl, b, rfl, rfl⟩ (by decide) hL L 0 _ (by omega) (by omega) (good0 _ x0 x1 x2 x3 x4 x5 x6)
  rw [lg_entry_eq]
  exact hG _ s.heap [] (by rw [hml]; exact lv_entry [Value.ref b] (Nat.le_of_ble_eq_true rfl)) (fun k q h => by simp at h) ⟨fun i j p q h => by simp at h, fun k q h => by simp at h⟩ va_S.rf
