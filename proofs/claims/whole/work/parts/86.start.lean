/-! the law: what the two constructors make, by number; the loop; printed by wip/tools/m_law3.py -/
/-- the cells as the two constructors leave them -/
def t0 (E : EV) (x0 x1 x2 x3 x4 x5 x6 : Nat) : List va_E :=
  ob 11 (.ref (eA E 1) :: .ref (eA E 10) :: .ref (eA E 13) :: .ref (eA E 14) :: .ref (eA E 22) :: .ref (eA E 27) :: .ref (eA E 29) :: .ref (eA E 44) :: .int (zI 8) :: .int (zI 64) :: .int (zI 0) :: .long 0 :: .long 0 :: []) ::
  fil E ::
  ob 6 [.ref (eA E 3), .int 0] ::
  ia E 300 (fun _ => 0) ::
  ob 6 [.ref (eA E 5), .int 0] ::
  ia E 300 (fun _ => 0) ::
  ob 6 [.ref (eA E 7), .int 0] ::
  ia E 700 (fun _ => 0) ::
  ob 6 [.ref (eA E 9), .int 0] ::
  ia E 300 (fun _ => 0) ::
  ob 2 [.ref (eA E 11), .ref (eA E 12)] ::
  ia E 4 (fun _ => 0) ::
  ia E 16 (fun _ => 0) ::
  ob 8 [.int 0, .int 0, .int 0, .int 0] ::
  ob 7 [.ref (eA E 15), .ref (eA E 18), .ref (eA E 19), .ref (eA E 20), .ref (eA E 21), .int 0, .int 0, .int 0] ::
  ob 2 [.ref (eA E 16), .ref (eA E 17)] ::
  ia E 4 (fun _ => 0) ::
  ia E 16 (fun _ => 0) ::
  la E 75 (fun _ => 0) ::
  la E 75 (fun _ => 0) ::
  la E 75 (fun _ => 0) ::
  ob 8 [.int 0, .int 0, .int 0, .int 0] ::
  ob 4 [.ref (eA E 23), .ref (eA E 24), .ref (eA E 25), .ref (eA E 26), .int 0, .int 0, .int (zI 16), .int 0] ::
  ia E 300 (fun _ => 0) ::
  ia E 300 (fun _ => 0) ::
  ia E 300 (fun _ => 0) ::
  ia E 300 (fun _ => 0) ::
  ob 3 [.ref (eA E 28), .int 0, .int 0, .int 0, .int 0, .int 0] ::
  ia E 556 (fun _ => 0) ::
  ob 10 [.ref (eA E 30), .ref (eA E 32), .ref (eA E 34), .ref (eA E 36), .ref (eA E 38), .ref (eA E 40), .ref (eA E 41), .int 0] ::
  ob 6 [.ref (eA E 31), .int 0] ::
  ia E 1885 (fun _ => 0) ::
  ob 6 [.ref (eA E 33), .int 0] ::
  ia E 20 (fun _ => 0) ::
  ob 6 [.ref (eA E 35), .int 0] ::
  ia E 256 (fun _ => 0) ::
  ob 6 [.ref (eA E 37), .int 0] ::
  ia E 768 (fun _ => 0) ::
  ob 6 [.ref (eA E 39), .int 0] ::
  ia E 512 (fun _ => 0) ::
  ia E 300 (fun _ => 0) ::
  ob 0 [.ref (eA E 42), .ref (eA E 43), .int 0, .int 0, .int 0] ::
  ia E 8 (fun _ => 0) ::
  ia E 1024 (fun _ => 0) ::
  ob 5 (.ref (eA E 45) :: .ref (eA E 47) :: .ref (eA E 49) :: .ref (eA E 51) :: .ref (eA E 52) :: .ref (eA E 53) :: .int 0 :: .int 0 :: .int 0 :: .ref (eA E 49) :: .ref (eA E 51) :: .ref (eA E 49) :: .ref (eA E 45) :: .ref (eA E 49) :: .int 0 :: .int 0 :: []) ::
  ob 6 [.ref (eA E 46), .int 0] ::
  ia E 300 (fun _ => 0) ::
  ob 6 [.ref (eA E 48), .int 0] ::
  ia E 1536 (fun _ => 0) ::
  ob 6 [.ref (eA E 50), .int (zI 1536)] ::
  ia E 1536 (hN tbN) ::
  ob 1 [.ref x0, .int 0, .int 0] ::
  ob 1 [.ref x1, .int 0, .int 0] ::
  ob 9 (.ref (eA E 54) :: .ref (eA E 55) :: .ref (eA E 56) :: .ref (eA E 57) :: .ref (eA E 58) :: .ref x6 :: .ref x6 :: .int 0 :: .int 0 :: .int 0 :: .int 0 :: .int 0 :: .long 0 :: []) ::
  ob 1 [.ref x2, .int 0, .int 0] ::
  ob 1 [.ref x3, .int 0, .int 0] ::
  ob 1 [.ref x4, .int 0, .int 0] ::
  ob 1 [.ref x5, .int 0, .int 0] ::
  ob 0 [.ref (eA E 59), .ref (eA E 60), .int 0, .int 0, .int 0] ::
  ia E 8 (fun _ => 0) ::
  ia E 1024 (fun _ => 0) ::
  ob 12 (.ref (eA E 62) :: .ref (eA E 63) :: .ref (eA E 64) :: .ref (eA E 65) :: .long 0 :: .long 0 :: .int 0 :: .int (zI (-1)) :: .ref (eA E 66) :: .ref (eA E 67) :: .ref (eA E 68) :: .int (zI (-1)) :: .int 0 :: .int 0 :: .ref (eA E 69) :: .ref (eA E 70) :: .ref (eA E 71) :: .ref (eA E 72) :: .int 0 :: .ref (eA E 73) :: .ref (eA E 74) :: .int 0 :: .ref (eA E 75) :: .ref (eA E 76) :: .ref (eA E 77) :: .int 0 :: .int 0 :: .int 0 :: .ref (eA E 78) :: .ref (eA E 79) :: .int 0 :: .int 0 :: .int 0 :: .ref (eA E 80) :: .int 0 :: .ref (eA E 81) :: .int 0 :: .int 0 :: .ref (eA E 82) :: .int 0 :: .int 0 :: .int 0 :: .int 0 :: .int 0 :: .ref (eA E 83) :: .ref (eA E 84) :: .int 0 :: .int (zI 8) :: .int (zI 64) :: .long 0 :: .long 0 :: []) ::
  la E 32 (kp 32) ::
  ia E 1600 (fun _ => 0) ::
  ia E 4 (fun _ => 0) ::
  la E 4 (fun _ => 0) ::
  la E 75 (fun _ => 0) ::
  la E 75 (fun _ => 0) ::
  la E 75 (fun _ => 0) ::
  ia E 700 (fun _ => 0) ::
  ia E 700 (fun _ => 0) ::
  ia E 700 (fun _ => 0) ::
  ia E 700 (fun _ => 0) ::
  ia E 300 (fun _ => 0) ::
  ia E 300 (fun _ => 0) ::
  ia E 3000 (fun _ => 0) ::
  ia E 3 (fun _ => 0) ::
  ia E 3000 (fun _ => 0) ::
  ia E 8 (fun _ => 0) ::
  ia E 1024 (fun _ => 0) ::
  ia E 1536 (fun _ => 0) ::
  ia E 1536 (fun _ => 0) ::
  ia E 1536 (fun _ => 0) ::
  ia E 3 (fun _ => 0) ::
  ia E 3 (fun _ => 0) :: []
def f0 (E : EV) (x0 x1 x2 x3 x4 x5 x6 : Nat) : Nat → va_E := fun i => (t0 E x0 x1 x2 x3 x4 x5 x6).getD i (ob 0 [])
def F0m (E : EV) : Nat → Value := fun j => (.ref (eA E 62) :: .ref (eA E 63) :: .ref (eA E 64) :: .ref (eA E 65) :: .long 0 :: .long 0 :: .int 0 :: .int (zI (-1)) :: .ref (eA E 66) :: .ref (eA E 67) :: .ref (eA E 68) :: .int (zI (-1)) :: .int 0 :: .int 0 :: .ref (eA E 69) :: .ref (eA E 70) :: .ref (eA E 71) :: .ref (eA E 72) :: .int 0 :: .ref (eA E 73) :: .ref (eA E 74) :: .int 0 :: .ref (eA E 75) :: .ref (eA E 76) :: .ref (eA E 77) :: .int 0 :: .int 0 :: .int 0 :: .ref (eA E 78) :: .ref (eA E 79) :: .int 0 :: .int 0 :: .int 0 :: .ref (eA E 80) :: .int 0 :: .ref (eA E 81) :: .int 0 :: .int 0 :: .ref (eA E 82) :: .int 0 :: .int 0 :: .int 0 :: .int 0 :: .int 0 :: .ref (eA E 83) :: .ref (eA E 84) :: .int 0 :: .int (zI 8) :: .int (zI 64) :: .long 0 :: .long 0 :: []).getD j .null
theorem F0m_K (E : EV) : moK E (F0m E) := by
  have h : ∀ q ∈ moT, F0m E q.1 = .ref (eA E q.2) := List.forall_mem_cons.mpr ⟨rfl, List.forall_mem_cons.mpr ⟨rfl, List.forall_mem_cons.mpr ⟨rfl, List.forall_mem_cons.mpr ⟨rfl, List.forall_mem_cons.mpr ⟨rfl, List.forall_mem_cons.mpr ⟨rfl, List.forall_mem_cons.mpr ⟨rfl, List.forall_mem_cons.mpr ⟨rfl, List.forall_mem_cons.mpr ⟨rfl, List.forall_mem_cons.mpr ⟨rfl, List.forall_mem_cons.mpr ⟨rfl, List.forall_mem_cons.mpr ⟨rfl, List.forall_mem_cons.mpr ⟨rfl, List.forall_mem_cons.mpr ⟨rfl, List.forall_mem_cons.mpr ⟨rfl, List.forall_mem_cons.mpr ⟨rfl, List.forall_mem_cons.mpr ⟨rfl, List.forall_mem_cons.mpr ⟨rfl, List.forall_mem_cons.mpr ⟨rfl, List.forall_mem_cons.mpr ⟨rfl, List.forall_mem_cons.mpr ⟨rfl, List.forall_mem_cons.mpr ⟨rfl, List.forall_mem_cons.mpr ⟨rfl, fun _ h => absurd h List.not_mem_nil⟩⟩⟩⟩⟩⟩⟩⟩⟩⟩⟩⟩⟩⟩⟩⟩⟩⟩⟩⟩⟩⟩⟩
  intro j i hji
  exact h (j, i) hji
theorem isB_0 : isB (fun _ => 0) := by
  intro k
  show 0 ≤ (0 : Int) ∧ (0 : Int) < 256
  decide
theorem tb_zf : hN tbN = zf stZ := by
  funext j
  show zI ((tbN j : Nat) : Int) = zI ((tbN ((j : Int)).toNat : Nat) : Int)
  rw [Int.toNat_natCast]
section GOOD0
variable (E : EV) (x0 x1 x2 x3 x4 x5 x6 : Nat)
theorem g0_df : isDf E (f0 E x0 x1 x2 x3 x4 x5 x6) 8 64 0 0 0 := ⟨rfl, rfl⟩
theorem g0_r2 : isR E (f0 E x0 x1 x2 x3 x4 x5 x6) 2 3 300 (fun _ => 0) 0 := ⟨rfl, rfl⟩
theorem g0_r4 : isR E (f0 E x0 x1 x2 x3 x4 x5 x6) 4 5 300 (fun _ => 0) 0 := ⟨rfl, rfl⟩
theorem g0_r6 : isR E (f0 E x0 x1 x2 x3 x4 x5 x6) 6 7 700 (fun _ => 0) 0 := ⟨rfl, rfl⟩
theorem g0_r8 : isR E (f0 E x0 x1 x2 x3 x4 x5 x6) 8 9 300 (fun _ => 0) 0 := ⟨rfl, rfl⟩
theorem g0_dg : gDg E (f0 E x0 x1 x2 x3 x4 x5 x6) := ⟨(fun _ => 0), (fun _ => 0), 0, 0, 0, 0, ⟨rfl, rfl, rfl⟩, rfl⟩
theorem g0_sg : gSg E (f0 E x0 x1 x2 x3 x4 x5 x6) (fun _ => 0) (fun _ => 0) (fun _ => 0) 0 0 0 := ⟨⟨rfl, rfl, rfl, rfl⟩, (fun _ => 0), (fun _ => 0), 0, 0, 0, 0, ⟨rfl, rfl, rfl⟩, rfl⟩
def P0 : PS := ((fun _ => 0), (fun _ => 0), (fun _ => 0), (fun _ => 0), 0)
theorem plB_0 : plB P0 := by
  intro k
  show (0 ≤ (0 : Int) ∧ (0 : Int) ≤ 3) ∧ (0 ≤ (0 : Int) ∧ (0 : Int) ≤ 300) ∧ (-1 ≤ (0 : Int) ∧ (0 : Int) ≤ 700) ∧ 0 ≤ (0 : Int) ∧ (0 : Int) ≤ 300
  decide
theorem pC_0 : 0 ≤ pC P0 ∧ pC P0 ≤ 300 := by
  show 0 ≤ (0 : Int) ∧ (0 : Int) ≤ 300
  decide
theorem g0_pl : isPl E (f0 E x0 x1 x2 x3 x4 x5 x6) P0 0 16 0 := ⟨rfl, rfl, rfl, rfl, rfl⟩
theorem g0_ma : gMa E (f0 E x0 x1 x2 x3 x4 x5 x6) := ⟨(fun _ => 0), 0, 0, 0, 0, 0, ⟨rfl, rfl⟩, isB_0⟩
theorem g0_wt : gWt E (f0 E x0 x1 x2 x3 x4 x5 x6) := ⟨0, (fun _ => 0), 0, rfl, ⟨rfl, rfl⟩, (fun _ => 0), 0, (fun _ => 0), 0, (fun _ => 0), 0, (fun _ => 0), 0, (fun _ => 0), (fun _ => 0), (fun _ => 0), 0, 0, 0, ⟨rfl, rfl⟩, ⟨rfl, rfl⟩, ⟨rfl, rfl⟩, ⟨rfl, rfl⟩, rfl, ⟨rfl, rfl, rfl⟩⟩
theorem g0_wd : wdS E (f0 E x0 x1 x2 x3 x4 x5 x6) := ⟨⟨_, _, 0, 0, 0, 0, 0, 0, rfl⟩, ⟨_, 0, 0, rfl⟩, ⟨_, 0, 0, rfl⟩, ⟨_, 0, 0, rfl⟩, ⟨_, 0, 0, rfl⟩, (fun _ => 0), (fun _ => 0), 0, 0, 0, ⟨rfl, rfl, rfl⟩⟩
theorem g0_tb : isR E (f0 E x0 x1 x2 x3 x4 x5 x6) 49 50 1536 stZ 1536 := ⟨rfl, (show ia E 1536 (hN tbN) = iz E 1536 stZ by rw [tb_zf])⟩
theorem g0_rd : rdI E (f0 E x0 x1 x2 x3 x4 x5 x6) stZ := ⟨⟨0, 0, 0, _, _, _, _, _, 0, 0, rfl⟩, ⟨_, 0, 0, rfl⟩, ⟨_, 0, 0, rfl⟩, g0_wd E x0 x1 x2 x3 x4 x5 x6, ⟨(fun _ => 0), 0, ⟨rfl, rfl⟩, isB_0, by decide, by decide⟩, ⟨(fun _ => 0), 0, ⟨rfl, rfl⟩, isB_0, by decide, by decide⟩, g0_tb E x0 x1 x2 x3 x4 x5 x6⟩
theorem g0_mo : (f0 E x0 x1 x2 x3 x4 x5 x6) 61 = mob (F0m E) := rfl
theorem g0_mb : (f0 E x0 x1 x2 x3 x4 x5 x6) 63 = iz E 1600 (fun _ => 0) ∧ (f0 E x0 x1 x2 x3 x4 x5 x6) 64 = iz E 4 (fun _ => 0) := ⟨rfl, rfl⟩
theorem g0_mk : gMk E (f0 E x0 x1 x2 x3 x4 x5 x6) := ⟨(show la E 32 (kp 32) = la E 32 kkF by rw [kp_32]), (fun _ => 0), rfl⟩
theorem g0_ms : (f0 E x0 x1 x2 x3 x4 x5 x6) 66 = la E 75 (fun _ => 0) ∧ (f0 E x0 x1 x2 x3 x4 x5 x6) 67 = la E 75 (fun _ => 0) ∧ (f0 E x0 x1 x2 x3 x4 x5 x6) 68 = la E 75 (fun _ => 0) := ⟨rfl, rfl, rfl⟩
theorem g0_mp : (f0 E x0 x1 x2 x3 x4 x5 x6) 69 = iz E 700 (fun _ => 0) ∧ (f0 E x0 x1 x2 x3 x4 x5 x6) 70 = iz E 700 (fun _ => 0) ∧ (f0 E x0 x1 x2 x3 x4 x5 x6) 71 = iz E 700 (fun _ => 0) ∧ (f0 E x0 x1 x2 x3 x4 x5 x6) 72 = iz E 700 (fun _ => 0) := ⟨rfl, rfl, rfl, rfl⟩
theorem g0_mx : gMx E (f0 E x0 x1 x2 x3 x4 x5 x6) := ⟨(fun _ => 0), (fun _ => 0), (fun _ => 0), (fun _ => 0), (fun _ => 0), (fun _ => 0), (fun _ => 0), (fun _ => 0), (fun _ => 0), (fun _ => 0), (fun _ => 0), (fun _ => 0), rfl, rfl, rfl, rfl, rfl, rfl, rfl, rfl, rfl, rfl, rfl, rfl⟩
theorem good0 : Good E stZ (f0 E x0 x1 x2 x3 x4 x5 x6) :=
  ⟨8, 64, 0, 0, 0, (fun _ => 0), 0, (fun _ => 0), 0, (fun _ => 0), 0, (fun _ => 0), 0, (fun _ => 0), (fun _ => 0), (fun _ => 0), 0, 0, 0, P0, 0, 16, 0, F0m E, (fun _ => 0), (fun _ => 0), (fun _ => 0), (fun _ => 0), (fun _ => 0), (fun _ => 0), (fun _ => 0), (fun _ => 0), (fun _ => 0),
    g0_df E x0 x1 x2 x3 x4 x5 x6, g0_r2 E x0 x1 x2 x3 x4 x5 x6, g0_r4 E x0 x1 x2 x3 x4 x5 x6, g0_r6 E x0 x1 x2 x3 x4 x5 x6, g0_r8 E x0 x1 x2 x3 x4 x5 x6, g0_dg E x0 x1 x2 x3 x4 x5 x6, g0_sg E x0 x1 x2 x3 x4 x5 x6, g0_pl E x0 x1 x2 x3 x4 x5 x6, g0_ma E x0 x1 x2 x3 x4 x5 x6, g0_wt E x0 x1 x2 x3 x4 x5 x6, g0_rd E x0 x1 x2 x3 x4 x5 x6, g0_mo E x0 x1 x2 x3 x4 x5 x6, g0_mb E x0 x1 x2 x3 x4 x5 x6, g0_mk E x0 x1 x2 x3 x4 x5 x6, g0_ms E x0 x1 x2 x3 x4 x5 x6, g0_mp E x0 x1 x2 x3 x4 x5 x6, g0_mx E x0 x1 x2 x3 x4 x5 x6, F0m_K E,
    (by rw [if_neg (by decide)]; rfl), (fun h => absurd h (by decide)), (by rw [if_neg (by decide)]; rfl), (fun h => absurd h (by decide)), ⟨rfl, rfl, rfl, rfl, rfl⟩, ⟨isB_0, isB_0, isB_0, isB_0⟩, ⟨by decide, by decide, by decide, by decide⟩, ⟨rfl, rfl, rfl, rfl⟩, ag_0, ag_0, ag_0, ag_0,
    ⟨Or.inl rfl, (fun h => absurd h (by decide))⟩, ⟨Or.inl rfl, plB_0, pC_0, (fun h => absurd h (by decide))⟩, ⟨⟨by decide, by decide⟩, ⟨by decide, by decide⟩, Or.inl rfl, fun h => absurd rfl h⟩⟩
end GOOD0
