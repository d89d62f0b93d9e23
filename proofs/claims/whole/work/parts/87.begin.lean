def withA (E : EV) (α : Nat → Nat) : EV := (E.1, E.2.1, α, E.2.2.2)
theorem arrV_ext {c : ClassId} {n : Nat} {f g : Nat → Value} (h : ∀ j, j < n → f j = g j) : arrV c n f = arrV c n g := by
  have e1 : (fun j : Fin n => f j) = (fun j : Fin n => g j) := funext fun j => h j.1 j.2
  unfold arrV
  rw [e1]
section START
variable {E : EV} {X : XT} {k n pc : Nat} {lv : List (Nat × Value)} {st : List Value} {ws : va_W}
/-- a row of references told otherwise, the same below its length -/
theorem G_rrow {j a nn : Nat} {c : ClassId} {g g' : Nat → Option Nat} (he : ws[j]? = some (a, .inl (c, nn, .inr (.inr (.inr (.inr g)))))) (hg : ∀ t, t < nn → g t = g' t) (h : G E X k n pc lv st (ws.set j (a, .inl (c, nn, .inr (.inr (.inr (.inr g'))))))) : G E X k n pc lv st ws := by
  obtain ⟨p, l, e, R, s, m, args, below, meth, cc, A, Q⟩ := X
  intro ls H locs hl hP hD hS
  have hj : j < ws.length := (List.getElem?_eq_some_iff.mp he).1
  have hget : ∀ (t : Nat) (q : Nat × va_E), (ws.set j (a, .inl (c, nn, .inr (.inr (.inr (.inr g'))))))[t]? = some q → ∃ q', ws[t]? = some q' ∧ q'.1 = q.1 ∧ (t = j ∨ q' = q) := by
    intro t q hq
    by_cases ht : j = t
    · subst ht
      rw [List.getElem?_set_self hj] at hq
      obtain rfl := Option.some.inj hq
      exact ⟨_, he, rfl, Or.inl rfl⟩
    · rw [List.getElem?_set_ne ht] at hq
      exact ⟨q, hq, rfl, Or.inr rfl⟩
  refine h ls H locs hl ?_ ?_ hS
  · intro t q hq
    by_cases ht : j = t
    · subst ht
      rw [List.getElem?_set_self hj] at hq
      obtain rfl := Option.some.inj hq
      have h1 := hP j _ he
      show H[a]? = some (vp_cell c (nn, .inr (.inr (.inr (.inr g')))))
      have h2 : H[a]? = some (vp_cell c (nn, .inr (.inr (.inr (.inr g))))) := h1
      rw [h2, vp_cell_q, vp_cell_q, arrV_ext (f := fun j => va_rf (g j)) (g := fun j => va_rf (g' j)) (fun t ht => by rw [hg t ht])]
    · rw [List.getElem?_set_ne ht] at hq
      exact hP t q hq
  · refine ⟨?_, ?_⟩
    · intro t1 t2 q1 q2 h1 h2 h3
      obtain ⟨r1, a1, b1, _⟩ := hget t1 q1 h1
      obtain ⟨r2, a2, b2, _⟩ := hget t2 q2 h2
      exact hD.1 t1 t2 r1 r2 a1 a2 (by rw [b1, b2]; exact h3)
    · intro t q hq
      obtain ⟨r1, a1, b1, _⟩ := hget t q hq
      rw [← b1]
      exact hD.2 t r1 a1
/-- from the list of cells to cells by number -/
theorem G_wl {α : Nat → Nat} {f : Nat → va_E} (is : List Nat) (hnd : va_nd is = true) (hs : is.map (fun i => ws[i]?) = (wl (withA E α) f).map some) (h : G (withA E α) X k n pc lv st (wl (withA E α) f)) : G E X k n pc lv st ws := by
  obtain ⟨p, l, e, R, s, m, args, below, meth, cc, A, Q⟩ := X
  intro ls H locs hl hP hD hS
  refine h ls H locs hl (hP.sub is ?_) (hD.sub is hnd hs) hS
  have e1 : is.filterMap (fun i => ws[i]?) = (is.map (fun i => ws[i]?)).filterMap id := by
    rw [List.filterMap_map]; rfl
  rw [e1, hs, List.filterMap_map]
  simp
end START
set_option maxRecDepth 16384 in
theorem lw_begin {E : EV} {X : XT} {nm : String} {b : Nat} (hX : Ok E X "DeltaFerryLaw" nm code 4 (some .boolean) room_1) (hao : AOX X) (kk : ∀ (α : Nat → Nat) (x0 x1 x2 x3 x4 x5 x6 : Nat), G (withA E α) X 93 29905 18 (lvL (withA E α) b 0) [] (wl (withA E α) (f0 (withA E α) x0 x1 x2 x3 x4 x5 x6))) : G E X 0 0 0 [(0, .ref b)] [] [] := by
  refine G_new hX (ci := 11) (fs := [.null, .null, .null, .null, .null, .null, .null, .null, .int 0, .int 0, .int 0, .long 0, .long 0]) rfl in_Df tk_Df kl_La_7 ki_Df kj_Df df_Df (by decide) d_La_law_0 (fun A0 => ?_)
  refine G_dup hX rfl d_La_law_3 ?_
  refine G_callIA hX hao (st := [.ref A0]) (i_Df E [] A0) cm_Df_init im_Df_init rfl ml_La_9 d_La_law_4 rfl rfl (Nat.le_of_ble_eq_true rfl) ⟨Nat.le_of_ble_eq_true rfl, Nat.le_of_ble_eq_true rfl⟩ ⟨Nat.le_of_ble_eq_true rfl, Nat.le_of_ble_eq_true rfl⟩ ?_
  rintro _ w9 ⟨rfl, p0, p1, p2, p3, p4, p5, p6, p7, p8, p9, p10, p11, p12, p13, p14, p15, p16, p17, p18, p19, p20, p21, p22, p23, p24, p25, p26, p27, p28, p29, p30, p31, p32, p33, p34, p35, p36, p37, p38, p39, p40, p41, p42, p43, p44, p45, p46, p47, p48, p49, p50, p51, p52, p53, p54, p55, p56, p57, p58, p59, p60, p61, p62, p63, p64, p65, p66, p67, rfl⟩
  refine G_cast (st' := [.ref A0]) ?_ rfl rfl rfl rfl
  refine G_astore_n (lv' := [(1, .ref A0), (0, .ref b)]) hX rfl (by decide) rfl d_La_law_7 ?_
  refine G_new hX (ci := 12) (fs := (.null :: .null :: .null :: .null :: .long 0 :: .long 0 :: .int 0 :: .int 0 :: .null :: .null :: .null :: .int 0 :: .int 0 :: .int 0 :: .null :: .null :: .null :: .null :: .int 0 :: .null :: .null :: .int 0 :: .null :: .null :: .null :: .int 0 :: .int 0 :: .int 0 :: .null :: .null :: .int 0 :: .int 0 :: .int 0 :: .null :: .int 0 :: .null :: .int 0 :: .int 0 :: .null :: .int 0 :: .int 0 :: .int 0 :: .int 0 :: .int 0 :: .null :: .null :: .int 0 :: .int 0 :: .int 0 :: .long 0 :: .long 0 :: [])) rfl in_Mo tk_Mo kl_La_10 ki_Mo kj_Mo df_Mo (by decide) d_La_law_8 (fun A1 => ?_)
  refine G_dup hX rfl d_La_law_11 ?_
  refine G_callI hX (st := [.ref A1]) (i_Mo E _ A1) cm_Mo_init im_Mo_init rfl ml_La_12 d_La_law_12 rfl rfl (Nat.le_of_ble_eq_true rfl) ⟨Nat.le_of_ble_eq_true rfl, Nat.le_of_ble_eq_true rfl⟩ ⟨Nat.le_of_ble_eq_true rfl, Nat.le_of_ble_eq_true rfl⟩ ?_
  rintro _ w9 ⟨rfl, m0, m1, m2, m3, m4, m5, m6, m7, m8, m9, m10, m11, m12, m13, m14, m15, m16, m17, m18, m19, m20, m21, m22, rfl⟩
  refine G_cast (st' := [.ref A1]) ?_ rfl rfl rfl rfl
  refine G_astore_n (lv' := [(2, .ref A1), (1, .ref A0), (0, .ref b)]) hX rfl (by decide) rfl d_La_law_15 ?_
  refine G_iconst hX d_La_law_16 ?_
  refine G_istore_n (lv' := [(3, .int (zI 0)), (2, .ref A1), (1, .ref A0), (0, .ref b)]) hX rfl (by decide) rfl d_La_law_17 ?_
  refine G_rrow (j := 1) (g' := fun j => some ((A0 :: p0 :: p60 :: p61 :: p62 :: p63 :: p64 :: p65 :: p66 :: p67 :: p1 :: p2 :: p3 :: p4 :: p5 :: p6 :: p7 :: p8 :: p9 :: p10 :: p11 :: p12 :: p13 :: p14 :: p15 :: p16 :: p17 :: p18 :: p19 :: p20 :: p21 :: p22 :: p23 :: p24 :: p25 :: p26 :: p27 :: p28 :: p29 :: p30 :: p31 :: p32 :: p33 :: p34 :: p35 :: p36 :: p37 :: p38 :: p39 :: p40 :: p41 :: p42 :: p44 :: p46 :: p47 :: p49 :: p51 :: p53 :: p55 :: p56 :: p57 :: A1 :: m0 :: m1 :: m2 :: m3 :: m4 :: m5 :: m6 :: m7 :: m8 :: m9 :: m10 :: m11 :: m12 :: m13 :: m14 :: m15 :: m16 :: m17 :: m18 :: m19 :: m20 :: m21 :: m22 :: []).getD (2 + 2 * j) 0)) rfl ?_ ?_
  · intro t ht
    rcases (show t = 0 ∨ t = 1 ∨ t = 2 ∨ t = 3 by omega) with rfl | rfl | rfl | rfl <;> rfl
  exact G_wl (α := fun i => (A0 :: p0 :: p60 :: p61 :: p62 :: p63 :: p64 :: p65 :: p66 :: p67 :: p1 :: p2 :: p3 :: p4 :: p5 :: p6 :: p7 :: p8 :: p9 :: p10 :: p11 :: p12 :: p13 :: p14 :: p15 :: p16 :: p17 :: p18 :: p19 :: p20 :: p21 :: p22 :: p23 :: p24 :: p25 :: p26 :: p27 :: p28 :: p29 :: p30 :: p31 :: p32 :: p33 :: p34 :: p35 :: p36 :: p37 :: p38 :: p39 :: p40 :: p41 :: p42 :: p44 :: p46 :: p47 :: p49 :: p51 :: p53 :: p55 :: p56 :: p57 :: A1 :: m0 :: m1 :: m2 :: m3 :: m4 :: m5 :: m6 :: m7 :: m8 :: m9 :: m10 :: m11 :: m12 :: m13 :: m14 :: m15 :: m16 :: m17 :: m18 :: m19 :: m20 :: m21 :: m22 :: []).getD i 0) (f := f0 (withA E (fun i => (A0 :: p0 :: p60 :: p61 :: p62 :: p63 :: p64 :: p65 :: p66 :: p67 :: p1 :: p2 :: p3 :: p4 :: p5 :: p6 :: p7 :: p8 :: p9 :: p10 :: p11 :: p12 :: p13 :: p14 :: p15 :: p16 :: p17 :: p18 :: p19 :: p20 :: p21 :: p22 :: p23 :: p24 :: p25 :: p26 :: p27 :: p28 :: p29 :: p30 :: p31 :: p32 :: p33 :: p34 :: p35 :: p36 :: p37 :: p38 :: p39 :: p40 :: p41 :: p42 :: p44 :: p46 :: p47 :: p49 :: p51 :: p53 :: p55 :: p56 :: p57 :: A1 :: m0 :: m1 :: m2 :: m3 :: m4 :: m5 :: m6 :: m7 :: m8 :: m9 :: m10 :: m11 :: m12 :: m13 :: m14 :: m15 :: m16 :: m17 :: m18 :: m19 :: m20 :: m21 :: m22 :: []).getD i 0)) p43 p45 p48 p50 p52 p54 p58) [0, 1, 61, 62, 63, 64, 65, 66, 67, 68, 2, 3, 4, 5, 6, 7, 8, 9, 10, 11, 12, 13, 14, 15, 16, 17, 18, 19, 20, 21, 22, 23, 24, 25, 26, 27, 28, 29, 30, 31, 32, 33, 34, 35, 36, 37, 38, 39, 40, 41, 42, 43, 45, 47, 48, 50, 52, 54, 56, 57, 58, 69, 70, 71, 72, 73, 74, 75, 76, 77, 78, 79, 80, 81, 82, 83, 84, 85, 86, 87, 88, 89, 90, 91, 92] (by decide +kernel) rfl (kk _ p43 p45 p48 p50 p52 p54 p58)
