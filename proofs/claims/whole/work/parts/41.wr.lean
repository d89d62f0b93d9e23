/-! DeltaFerry$WindowReader: make; printed by wip/tools/m_wr2.py -/
abbrev WS := Int × Int × Int × Int × (Int → Int) × (Int → Int) × (Int → Int) × Int
section WIN
variable (K : WK) (g t old : Int → Int) (N S : Int)
/-- one instruction of a code: places in data, codes and addresses, count, bytes made, and the address rows -/
def inS (en pd pc pa c : Int) (m nr sm : Int → Int) (T : Int) : Option WS :=
  if t en = 0 then some (pd, pc, pa, c, m, nr, sm, T) else
  if (szR g (kC K) (t (512 + en)) pc).1 < 0 ∨ kT K + kZ K - c < (szR g (kC K) (t (512 + en)) pc).1 then none else
  if t en = 1 then (if kD K - pd < (szR g (kC K) (t (512 + en)) pc).1 then none else some (pd + (szR g (kC K) (t (512 + en)) pc).1, (szR g (kC K) (t (512 + en)) pc).2, pa, c + (szR g (kC K) (t (512 + en)) pc).1, cz g m pd c (szR g (kC K) (t (512 + en)) pc).1, nr, sm, T)) else
  if t en = 2 then (if kD K ≤ pd then none else some (pd + 1, (szR g (kC K) (t (512 + en)) pc).2, pa, c + (szR g (kC K) (t (512 + en)) pc).1, pz m c (fun _ => g pd) (szR g (kC K) (t (512 + en)) pc).1, nr, sm, T)) else
  (if hrOk (hrR nr sm N S (t (1024 + en)) (kS K + c - kT K) g pa (kA K)).1 (kS K + c - kT K) then some (pd, (szR g (kC K) (t (512 + en)) pc).2, (hrR nr sm N S (t (1024 + en)) (kS K + c - kT K) g pa (kA K)).2, c + (szR g (kC K) (t (512 + en)) pc).1, cpL K old (szR g (kC K) (t (512 + en)) pc).1.toNat (hrR nr sm N S (t (1024 + en)) (kS K + c - kT K) g pa (kA K)).1 m c, rmN nr N T (hrR nr sm N S (t (1024 + en)) (kS K + c - kT K) g pa (kA K)).1, rmS sm S (hrR nr sm N S (t (1024 + en)) (kS K + c - kT K) g pa (kA K)).1, rmT N T) else none)
def hvS (b : Int) : Nat → Int → Int → Int → Int → Int → (Int → Int) → (Int → Int) → (Int → Int) → Int → Option WS
  | 0, _, pd, pc, pa, c, m, nr, sm, T => some (pd, pc, pa, c, m, nr, sm, T)
  | k + 1, h, pd, pc, pa, c, m, nr, sm, T => match inS K g t old N S (256 * h + b) pd pc pa c m nr sm T with
    | none => none
    | some (pd, pc, pa, c, m, nr, sm, T) => hvS b k (h + 1) pd pc pa c m nr sm T
def cdS : Nat → Int → Int → Int → Int → (Int → Int) → (Int → Int) → (Int → Int) → Int → Option WS
  | 0, pd, pc, pa, c, m, nr, sm, T => some (pd, pc, pa, c, m, nr, sm, T)
  | k + 1, pd, pc, pa, c, m, nr, sm, T => if pc < kC K then (match hvS K g t old N S (g pc) 2 0 pd (pc + 1) pa c m nr sm T with
    | none => none
    | some (pd, pc, pa, c, m, nr, sm, T) => cdS k pd pc pa c m nr sm T) else some (pd, pc, pa, c, m, nr, sm, T)
/-- the rest of a code's halves, then the rest of the codes -/
def hcS (b : Int) (k : Nat) (j : Nat) (h pd pc pa c : Int) (m nr sm : Int → Int) (T : Int) : Option WS := match hvS K g t old N S b j h pd pc pa c m nr sm T with
  | none => none
  | some (pd, pc, pa, c, m, nr, sm, T) => cdS K g t old N S k pd pc pa c m nr sm T
def mkF (m : Int → Int) : Option WS := cdS K g t old N S 700 (kB K) (kD K) (kC K) (kT K) m (fun _ => 0) (fun _ => 0) 0
end WIN
def mkE (K : WK) : Option WS → Int
  | none => -2
  | some (pd, _, pa, c, m, _, _, _) => if c ≠ kT K + kZ K ∨ pd < kD K ∨ pa < kA K then -2 else if kK K = 1 ∧ adV m (kT K) (kZ K) ≠ kV K then -6 else 0
def mkM (m0 : Int → Int) : Option WS → (Int → Int)
  | none => m0
  | some (_, _, _, _, m, _, _, _) => m
theorem mkE_s {K : WK} {pd pc pa c T : Int} {m nr sm : Int → Int} : mkE K (some (pd, pc, pa, c, m, nr, sm, T)) = if c ≠ kT K + kZ K ∨ pd < kD K ∨ pa < kA K then -2 else if kK K = 1 ∧ adV m (kT K) (kZ K) ≠ kV K then -6 else 0 := rfl
section WINL
variable {K : WK} {g t old : Int → Int} {N S b h pd pc pa c T : Int} {m nr sm : Int → Int} {k j : Nat}
theorem hcS_n (hh : 0 ≤ h ∧ h < 2) (e : inS K g t old N S (256 * h + b) pd pc pa c m nr sm T = none) : hcS K g t old N S b k (2 - h).toNat h pd pc pa c m nr sm T = none := by
  rw [show (2 - h).toNat = (2 - (h + 1)).toNat + 1 by omega]
  simp only [hcS, hvS, e]
theorem hcS_s {pd1 pc1 pa1 c1 T1 : Int} {m1 nr1 sm1 : Int → Int} (hh : 0 ≤ h ∧ h < 2) (e : inS K g t old N S (256 * h + b) pd pc pa c m nr sm T = some (pd1, pc1, pa1, c1, m1, nr1, sm1, T1)) : hcS K g t old N S b k (2 - h).toNat h pd pc pa c m nr sm T = hcS K g t old N S b k (2 - (h + 1)).toNat (h + 1) pd1 pc1 pa1 c1 m1 nr1 sm1 T1 := by
  rw [show (2 - h).toNat = (2 - (h + 1)).toNat + 1 by omega]
  simp only [hcS, hvS, e]
theorem hcS_e (hh : 2 ≤ h) : hcS K g t old N S b k (2 - h).toNat h pd pc pa c m nr sm T = cdS K g t old N S k pd pc pa c m nr sm T := by
  rw [show (2 - h).toNat = 0 by omega]
  rfl
theorem cdS_s {i : Int} (hi : i < 700) (hp : pc < kC K) : cdS K g t old N S (700 - i).toNat pd pc pa c m nr sm T = hcS K g t old N S (g pc) (700 - (i + 1)).toNat (2 - (0 : Int)).toNat 0 pd (pc + 1) pa c m nr sm T := by
  rw [show (700 - i).toNat = (700 - (i + 1)).toNat + 1 by omega]
  simp only [cdS, if_pos hp]
  rfl
theorem cdS_e {i : Int} (hi : 700 ≤ i ∨ kC K ≤ pc) : cdS K g t old N S (700 - i).toNat pd pc pa c m nr sm T = some (pd, pc, pa, c, m, nr, sm, T) := by
  cases hk : (700 - i).toNat with
  | zero => rfl
  | succ k => simp only [cdS]; rw [if_neg (by omega)]
theorem rmN_b {ad : Int} (hn : ∀ k, 0 ≤ nr k ∧ nr k < 100000) (ha : 0 ≤ ad ∧ ad < 100000) : ∀ k, 0 ≤ rmN nr N T ad k ∧ rmN nr N T ad k < 100000 := by
  intro k
  unfold rmN
  split
  · unfold uz
    split
    · exact ha
    · exact hn k
  · exact hn k
theorem rmS_b {ad : Int} (hn : ∀ k, 0 ≤ sm k ∧ sm k < 100000) (ha : 0 ≤ ad ∧ ad < 100000) : ∀ k, 0 ≤ rmS sm S ad k ∧ rmS sm S ad k < 100000 := by
  intro k
  unfold rmS
  split
  · unfold uz
    split
    · exact ha
    · exact hn k
  · exact hn k
theorem rmT_b (hN : 0 ≤ N ∧ N ≤ 8) (hT : 0 ≤ T ∧ T < 8) : 0 ≤ rmT N T ∧ rmT N T < 8 := by
  unfold rmT
  split
  · have := emod_b (T + 1) (show 0 < N by omega)
    omega
  · exact hT
theorem hrR_b {mode here e : Int} (hB : isB g) (hp : 0 ≤ pa ∧ pa ≤ e) : pa ≤ (hrR nr sm N S mode here g pa e).2 ∧ (hrR nr sm N S mode here g pa e).2 ≤ e := by
  have h := num_b (g := g) (e := e) (p := pa) hB hp.2
  unfold hrR
  split
  · split
    · exact h.2.2
    · exact h.2.2
  · split
    · split
      · dsimp only; omega
      · dsimp only; omega
    · dsimp only; omega
theorem szR_b {ic e : Int} (hB : isB g) (hi : 0 ≤ ic ∧ ic < 256) (hp : 0 ≤ pc ∧ pc ≤ e) : -1 ≤ (szR g e ic pc).1 ∧ (szR g e ic pc).1 < 268435456 ∧ pc ≤ (szR g e ic pc).2 ∧ (szR g e ic pc).2 ≤ e := by
  have h := num_b (g := g) (e := e) (p := pc) hB hp.2
  unfold szR
  split
  · exact h
  · dsimp only; omega
end WINL
theorem c_Wr_makeR49 (E : EV) (f : Nat → va_E) (K : WK) (g old m0 nr0 sm0 : Int → Int) (oc N S N0 S0 T0 : Int) (t : Int → Int) (tc : Int) (hW : isWrR E f K) (hg : f 7 = iz E 700 g) (hB : isB g) (hM : isR E f 45 46 300 m0 (kT K)) (hm0 : isB m0) (hk : 0 ≤ kT K ∧ 0 ≤ kZ K ∧ kT K + kZ K ≤ 300 ∧ 0 ≤ kB K ∧ kB K ≤ kD K ∧ kD K ≤ kC K ∧ kC K ≤ kA K ∧ kA K ≤ 700) (hkk : (kK K = 0 ∨ kK K = 1) ∧ 0 ≤ kV K ∧ kV K < 4294967296) (hD : isC E f 55 7 (kB K) (kD K)) (hC : isC E f 56 7 (kD K) (kC K)) (hA : isC E f 57 7 (kC K) (kA K)) (hR : isA E f 58 59 60 nr0 sm0 N0 S0 T0) (hO : isR E f 2 3 300 old oc) (hoB : isB old) (hso : 0 ≤ kF K ∧ 0 ≤ kS K ∧ (kO K = 2 → kF K + kS K ≤ kT K) ∧ (¬ kO K = 2 → kF K + kS K ≤ 300)) (hss : kS K ≤ 1536) (hTb : isR E f 49 50 1536 t tc) (htB : isB t) (ht3 : ∀ k, 0 ≤ k → k < 512 → t k ≤ 3) (hN : 0 ≤ N ∧ N ≤ 8 ∧ 0 ≤ S ∧ S ≤ 4) : CF yn_Wr_make cd_Wr_make 10 (some (.int)) 3 E [.ref (eA E 53), .ref (eA E 49), .int (zI N), .int (zI S)] f (fun r f' => r = some (.int (zI (mkE K (mkF K g t old N S m0)))) ∧ (∃ (m1 : Int → Int) (c1 : Int), isR E f' 45 46 300 m1 c1 ∧ isB m1 ∧ (0 ≤ c1 ∧ c1 ≤ 300) ∧ (mkE K (mkF K g t old N S m0) = 0 → m1 = mkM m0 (mkF K g t old N S m0) ∧ c1 = kT K + kZ K)) ∧ (∃ p1 e1, isC E f' 55 7 p1 e1) ∧ (∃ p1 e1, isC E f' 56 7 p1 e1) ∧ (∃ p1 e1, isC E f' 57 7 p1 e1) ∧ (∃ nr1 sm1 N1 S1 T1, isA E f' 58 59 60 nr1 sm1 N1 S1 T1) ∧ Fr [55, 56, 57, 58, 59, 60, 45, 46] f f') := by
  refine CF.of (by decide +kernel) (Nat.le_of_ble_eq_true rfl) fun X hX hE => ?_
  have hX : Ok E X "DeltaFerry$WindowReader" "make" cd_Wr_make 10 (some (.int)) (rl 3) := hX
  refine G_cast (lv' := [(0, .ref (eA E 53)), (1, .ref (eA E 49)), (2, .int (zI N)), (3, .int (zI S))]) ?_ rfl rfl rfl rfl
  refine G_aload_n hX 0 rfl rfl d_Wr_make_0 ?_
  refine F_get hX fg_Wr_30 d_Wr_make_1 53 (by decide) hW rfl ?_
  refine G_iload_n hX 2 rfl rfl d_Wr_make_4 ?_
  refine G_iload_n hX 3 rfl rfl d_Wr_make_5 ?_
  refine F_callV hX (st := []) (c_Ad_open E f 58 59 60 nr0 sm0 N0 S0 T0 N S (by decide) (by decide) (by decide) (by decide) (by decide) (by decide) ⟨hR.1, hR.2.1, hR.2.2⟩) cm_Ad_open im_Ad_open se_Ad_open rfl ml_Wr_105 d_Wr_make_6 (by decide) hR.1 rfl rfl (Nat.le_of_ble_eq_true rfl) (by decide) ?_
  rintro _ f1 ⟨rfl, ⟨h4, h5, h6⟩, k7⟩
  refine G_cast (st' := []) ?_ rfl rfl rfl rfl
  refine F_nrmz 59 (fun _ => 0) (by decide) h5 (fun k _ h9 => by unfold kz; rw [if_pos (by omega)]) (fun f8 h9 k10 => ?_)
  have h11 : f8 60 = iz E 1024 (kz sm0 1024 0) := (k10 60 (by decide)).trans h6
  refine F_nrmz 60 (fun _ => 0) (by decide) h11 (fun k _ h9 => by unfold kz; rw [if_pos (by omega)]) (fun f12 h13 k14 => ?_)
  refine G_iconst hX d_Wr_make_9 ?_
  refine G_istore hX (lv' := [(4, .int (zI 0)), (0, .ref (eA E 53)), (1, .ref (eA E 49)), (2, .int (zI N)), (3, .int (zI S))]) (by decide) rfl d_Wr_make_10 ?_
  have loop15 : ∀ (q : Nat) (i : Int) (pd : Int) (pc : Int) (pa : Int) (c : Int) (m : Int → Int) (nr : Int → Int) (sm : Int → Int) (T : Int) (f16 : Nat → va_E), (700 - i).toNat < q → (0 ≤ i ∧ i ≤ 700) → ((0 ≤ pd ∧ pd ≤ kD K) ∧ (0 ≤ pc ∧ pc ≤ kC K) ∧ (0 ≤ pa ∧ pa ≤ kA K) ∧ (kT K ≤ c ∧ c ≤ kT K + kZ K) ∧ (0 ≤ T ∧ T < 8)) → (isB m) → (∀ k, 0 ≤ nr k ∧ nr k < 100000) → (∀ k, 0 ≤ sm k ∧ sm k < 100000) → (mkF K g t old N S m0 = cdS K g t old N S (700 - i).toNat pd pc pa c m nr sm T) → f16 55 = ob 1 [.ref (eA E 7), .int (zI pd), .int (zI (kD K))] → f16 56 = ob 1 [.ref (eA E 7), .int (zI pc), .int (zI (kC K))] → f16 57 = ob 1 [.ref (eA E 7), .int (zI pa), .int (zI (kA K))] → f16 58 = ob 0 [.ref (eA E 59), .ref (eA E 60), .int (zI N), .int (zI S), .int (zI T)] → f16 59 = iz E 8 nr → f16 60 = iz E 1024 sm → f16 45 = ob 6 [.ref (eA E 46), .int (zI c)] → f16 46 = iz E 300 m → Fr [55, 56, 57, 58, 59, 60, 45, 46] f12 f16 → G E X 0 0 12 [(0, .ref (eA E 53)), (1, .ref (eA E 49)), (4, .int (zI i))] [] (wl E f16) := by
    intro q
    induction q with
    | zero => intro i pd pc pa c m nr sm T f16 hms18; exact absurd hms18 (Nat.not_lt_zero _)
    | succ q ih19 =>
      intro i pd pc pa c m nr sm T f16 hms18 hi hb hm hnr hsm hs h20 h21 h22 h23 h24 h25 h26 h27 k17
      refine G_iload hX 2 rfl d_Wr_make_12 ?_
      refine G_sipush hX (by decide) d_Wr_make_14 ?_
      refine G_icmp_ge_z hX (tgt := 170) d_Wr_make_17 rfl (by omega) (fun c28 => ?_) (fun c29 => ?_)
      · skip
        refine G_aload_n hX 0 rfl rfl d_Wr_make_170 ?_
        have h30 : f16 53 = ob 9 [.ref (eA E 54), .ref (eA E 55), .ref (eA E 56), .ref (eA E 57), .ref (eA E 58), .ref (eA E 45), .ref (eA E (if kO K = 2 then 45 else 2)), .int (zI (kF K)), .int (zI (kS K)), .int (zI (kT K)), .int (zI (kZ K)), .int (zI (kK K)), .long (zL (kV K))] := (k17 53 (by decide)).trans ((k14 53 (by decide)).trans ((k10 53 (by decide)).trans ((k7 53 (by decide)).trans hW)))
        refine F_get hX fg_Wr_39 d_Wr_make_171 53 (by decide) h30 rfl ?_
        refine F_get hX fg_Wr_46 d_Wr_make_174 45 (by decide) h26 rfl ?_
        refine G_aload_n hX 0 rfl rfl d_Wr_make_177 ?_
        refine F_get hX fg_Wr_50 d_Wr_make_178 53 (by decide) h30 rfl ?_
        refine G_aload_n hX 0 rfl rfl d_Wr_make_181 ?_
        refine F_get hX fg_Wr_82 d_Wr_make_182 53 (by decide) h30 rfl ?_
        refine G_iadd_z hX d_Wr_make_185 ?_
        refine G_icmp_ne_z hX (tgt := 209) d_Wr_make_186 rfl (by omega) (fun c31 => ?_) (fun c32 => ?_)
        · skip
          refine G_bipush hX (by decide) d_Wr_make_209 ?_
          first
            | (exfalso; omega)
            | skip
          have e9 : mkF K g t old N S m0 = some (pd, pc, pa, c, m, nr, sm, T) := hs.trans (cdS_e (by omega))
          have e8 : mkE K (mkF K g t old N S m0) = -2 := by rw [e9, mkE_s]; rw [if_pos (by omega)]
          rw [e8] at hE
          exact F_iret hX hE d_Wr_make_211 ⟨rfl, ⟨_, _, ⟨h26, h27⟩, hm, by omega, fun h9 => absurd h9 (by decide)⟩, ⟨_, _, h20⟩, ⟨_, _, h21⟩, ⟨_, _, h22⟩, ⟨_, _, _, _, _, ⟨h23, h24, h25⟩⟩, (Fr.tr (Fr.tr (Fr.tr (Fr.tr Fr.rf k7 (by decide)) k10 (by decide)) k14 (by decide)) k17 (by decide))⟩
        · skip
          refine G_aload_n hX 0 rfl rfl d_Wr_make_189 ?_
          refine F_get hX fg_Wr_18 d_Wr_make_190 53 (by decide) h30 rfl ?_
          have h33 : f16 7 = iz E 700 g := (k17 7 (by decide)).trans ((k14 7 (by decide)).trans ((k10 7 (by decide)).trans ((k7 7 (by decide)).trans hg)))
          refine F_callV hX (st := []) (c_Cu_left E f16 55 7 700 g pd (kD K) (by decide) (by decide) (by decide) h20 h33 (by omega)) cm_Cu_left im_Cu_left se_Cu_left rfl ml_Wr_68 d_Wr_make_193 (by decide) h20 rfl rfl (Nat.le_of_ble_eq_true rfl) (by decide) ?_
          rintro _ f34 ⟨rfl, e37⟩
          obtain rfl := e37.symm
          refine G_cast (st' := [.int (zI ((kD K) - pd))]) ?_ rfl rfl rfl rfl
          refine G_if_gt_z hX (tgt := 209) d_Wr_make_196 rfl (by omega) (fun c38 => ?_) (fun c39 => ?_)
          · skip
            refine G_bipush hX (by decide) d_Wr_make_209 ?_
            first
              | (exfalso; omega)
              | skip
            have e9 : mkF K g t old N S m0 = some (pd, pc, pa, c, m, nr, sm, T) := hs.trans (cdS_e (by omega))
            have e8 : mkE K (mkF K g t old N S m0) = -2 := by rw [e9, mkE_s]; rw [if_pos (by omega)]
            rw [e8] at hE
            exact F_iret hX hE d_Wr_make_211 ⟨rfl, ⟨_, _, ⟨h26, h27⟩, hm, by omega, fun h9 => absurd h9 (by decide)⟩, ⟨_, _, h20⟩, ⟨_, _, h21⟩, ⟨_, _, h22⟩, ⟨_, _, _, _, _, ⟨h23, h24, h25⟩⟩, (Fr.tr (Fr.tr (Fr.tr (Fr.tr Fr.rf k7 (by decide)) k10 (by decide)) k14 (by decide)) k17 (by decide))⟩
          · skip
            refine G_aload_n hX 0 rfl rfl d_Wr_make_199 ?_
            refine F_get hX fg_Wr_24 d_Wr_make_200 53 (by decide) h30 rfl ?_
            refine F_callV hX (st := []) (c_Cu_left E f16 57 7 700 g pa (kA K) (by decide) (by decide) (by decide) h22 h33 (by omega)) cm_Cu_left im_Cu_left se_Cu_left rfl ml_Wr_68 d_Wr_make_203 (by decide) h22 rfl rfl (Nat.le_of_ble_eq_true rfl) (by decide) ?_
            rintro _ f40 ⟨rfl, e43⟩
            obtain rfl := e43.symm
            refine G_cast (st' := [.int (zI ((kA K) - pa))]) ?_ rfl rfl rfl rfl
            refine G_if_le_z hX (tgt := 212) d_Wr_make_206 rfl (by omega) (fun c44 => ?_) (fun c45 => ?_)
            · skip
              refine G_aload_n hX 0 rfl rfl d_Wr_make_212 ?_
              refine F_get hX fg_Wr_61 d_Wr_make_213 53 (by decide) h30 rfl ?_
              refine G_if_eq_z hX (tgt := 250) d_Wr_make_216 rfl (by omega) (fun c46 => ?_) (fun c47 => ?_)
              · skip
                refine G_iconst hX d_Wr_make_250 ?_
                first
                  | (exfalso; omega)
                  | skip
                have e9 : mkF K g t old N S m0 = some (pd, pc, pa, c, m, nr, sm, T) := hs.trans (cdS_e (by omega))
                have e8 : mkE K (mkF K g t old N S m0) = 0 := by rw [e9, mkE_s]; rw [if_neg (by omega), if_neg (fun hq => by first | exact absurd hq.1 (by omega) | exact hq.2 heq)]
                rw [e8] at hE
                exact F_iret hX hE d_Wr_make_251 ⟨rfl, ⟨_, _, ⟨h26, h27⟩, hm, by omega, fun _ => ⟨by rw [e9]; rfl, by omega⟩⟩, ⟨_, _, h20⟩, ⟨_, _, h21⟩, ⟨_, _, h22⟩, ⟨_, _, _, _, _, ⟨h23, h24, h25⟩⟩, (Fr.tr (Fr.tr (Fr.tr (Fr.tr Fr.rf k7 (by decide)) k10 (by decide)) k14 (by decide)) k17 (by decide))⟩
              · skip
                refine G_aload_n hX 0 rfl rfl d_Wr_make_219 ?_
                refine F_get hX fg_Wr_39 d_Wr_make_220 53 (by decide) h30 rfl ?_
                refine F_get hX fg_Wr_108 d_Wr_make_223 45 (by decide) h26 rfl ?_
                refine G_aload_n hX 0 rfl rfl d_Wr_make_226 ?_
                refine F_get hX fg_Wr_50 d_Wr_make_227 53 (by decide) h30 rfl ?_
                refine G_aload_n hX 0 rfl rfl d_Wr_make_230 ?_
                refine F_get hX fg_Wr_82 d_Wr_make_231 53 (by decide) h30 rfl ?_
                refine F_callSN hX (st := []) (host := "DeltaFerry") (c_Df_checkOf E f16 46 300 m (kT K) (kZ K) (by decide) h27 hm (by omega)) cm_Df_checkOf sm_Df_checkOf (by decide +kernel) d_Wr_make_234 rfl rfl (Nat.le_of_ble_eq_true rfl) (by decide) ?_
                rintro _ f48 ⟨rfl, e51⟩
                obtain rfl := e51.symm
                refine G_cast (st' := [.long (zL (adV m (kT K) (kZ K)))]) ?_ rfl rfl rfl rfl
                refine G_aload_n hX 0 rfl rfl d_Wr_make_237 ?_
                refine F_get hX fg_Wr_96 d_Wr_make_238 53 (by decide) h30 rfl ?_
                refine G_lcmp hX d_Wr_make_241 ?_
                have had := adS_b m (kT K) (kZ K).toNat
                have had2 : 0 ≤ adV m (kT K) (kZ K) ∧ adV m (kT K) (kZ K) < 4294967296 := by unfold adV; omega
                by_cases heq : adV m (kT K) (kZ K) = kV K
                · skip
                  refine G_top (show (lg_cmp (zL (adV m (kT K) (kZ K))) (zL (kV K))) = zI 0 from by rw [heq]; exact (lg_cmp_eq _ _).mpr rfl) ?_
                  refine G_if_eq_z hX (tgt := 250) d_Wr_make_242 rfl (by omega) (fun c52 => ?_) (fun c53 => by exfalso; omega)
                  refine G_iconst hX d_Wr_make_250 ?_
                  first
                    | (exfalso; omega)
                    | skip
                  have e9 : mkF K g t old N S m0 = some (pd, pc, pa, c, m, nr, sm, T) := hs.trans (cdS_e (by omega))
                  have e8 : mkE K (mkF K g t old N S m0) = 0 := by rw [e9, mkE_s]; rw [if_neg (by omega), if_neg (fun hq => by first | exact absurd hq.1 (by omega) | exact hq.2 heq)]
                  rw [e8] at hE
                  exact F_iret hX hE d_Wr_make_251 ⟨rfl, ⟨_, _, ⟨h26, h27⟩, hm, by omega, fun _ => ⟨by rw [e9]; rfl, by omega⟩⟩, ⟨_, _, h20⟩, ⟨_, _, h21⟩, ⟨_, _, h22⟩, ⟨_, _, _, _, _, ⟨h23, h24, h25⟩⟩, (Fr.tr (Fr.tr (Fr.tr (Fr.tr Fr.rf k7 (by decide)) k10 (by decide)) k14 (by decide)) k17 (by decide))⟩
                · skip
                  have hne : adV m (kT K) (kZ K) ≠ kV K := heq
                  refine G_if_eq hX (tgt := 250) d_Wr_make_242 rfl (fun c54 => by exact absurd ((zL_eq (by omega)).mp ((lg_cmp_eq _ _).mp ‹lg_cmp _ _ = 0›)) heq) (fun c55 => ?_)
                  refine G_bipush hX (by decide) d_Wr_make_245 ?_
                  refine G_goto hX (tgt := 251) d_Wr_make_247 rfl ?_
                  first
                    | (exfalso; omega)
                    | skip
                  have e9 : mkF K g t old N S m0 = some (pd, pc, pa, c, m, nr, sm, T) := hs.trans (cdS_e (by omega))
                  have e8 : mkE K (mkF K g t old N S m0) = -6 := by rw [e9, mkE_s]; rw [if_neg (by omega), if_pos ⟨by omega, hne⟩]
                  rw [e8] at hE
                  exact F_iret hX hE d_Wr_make_251 ⟨rfl, ⟨_, _, ⟨h26, h27⟩, hm, by omega, fun h9 => absurd h9 (by decide)⟩, ⟨_, _, h20⟩, ⟨_, _, h21⟩, ⟨_, _, h22⟩, ⟨_, _, _, _, _, ⟨h23, h24, h25⟩⟩, (Fr.tr (Fr.tr (Fr.tr (Fr.tr Fr.rf k7 (by decide)) k10 (by decide)) k14 (by decide)) k17 (by decide))⟩
            · skip
              refine G_bipush hX (by decide) d_Wr_make_209 ?_
              first
                | (exfalso; omega)
                | skip
              have e9 : mkF K g t old N S m0 = some (pd, pc, pa, c, m, nr, sm, T) := hs.trans (cdS_e (by omega))
              have e8 : mkE K (mkF K g t old N S m0) = -2 := by rw [e9, mkE_s]; rw [if_pos (by omega)]
              rw [e8] at hE
              exact F_iret hX hE d_Wr_make_211 ⟨rfl, ⟨_, _, ⟨h26, h27⟩, hm, by omega, fun h9 => absurd h9 (by decide)⟩, ⟨_, _, h20⟩, ⟨_, _, h21⟩, ⟨_, _, h22⟩, ⟨_, _, _, _, _, ⟨h23, h24, h25⟩⟩, (Fr.tr (Fr.tr (Fr.tr (Fr.tr Fr.rf k7 (by decide)) k10 (by decide)) k14 (by decide)) k17 (by decide))⟩
      · skip
        refine G_aload_n hX 0 rfl rfl d_Wr_make_20 ?_
        have h56 : f16 53 = ob 9 [.ref (eA E 54), .ref (eA E 55), .ref (eA E 56), .ref (eA E 57), .ref (eA E 58), .ref (eA E 45), .ref (eA E (if kO K = 2 then 45 else 2)), .int (zI (kF K)), .int (zI (kS K)), .int (zI (kT K)), .int (zI (kZ K)), .int (zI (kK K)), .long (zL (kV K))] := (k17 53 (by decide)).trans ((k14 53 (by decide)).trans ((k10 53 (by decide)).trans ((k7 53 (by decide)).trans hW)))
        refine F_get hX fg_Wr_21 d_Wr_make_21 53 (by decide) h56 rfl ?_
        have h57 : f16 7 = iz E 700 g := (k17 7 (by decide)).trans ((k14 7 (by decide)).trans ((k10 7 (by decide)).trans ((k7 7 (by decide)).trans hg)))
        refine F_callV hX (st := []) (c_Cu_left E f16 56 7 700 g pc (kC K) (by decide) (by decide) (by decide) h21 h57 (by omega)) cm_Cu_left im_Cu_left se_Cu_left rfl ml_Wr_68 d_Wr_make_24 (by decide) h21 rfl rfl (Nat.le_of_ble_eq_true rfl) (by decide) ?_
        rintro _ f58 ⟨rfl, e61⟩
        obtain rfl := e61.symm
        refine G_cast (st' := [.int (zI ((kC K) - pc))]) ?_ rfl rfl rfl rfl
        refine G_if_le_z hX (tgt := 170) d_Wr_make_27 rfl (by omega) (fun c62 => ?_) (fun c63 => ?_)
        · skip
          refine G_aload_n hX 0 rfl rfl d_Wr_make_170 ?_
          refine F_get hX fg_Wr_39 d_Wr_make_171 53 (by decide) h56 rfl ?_
          refine F_get hX fg_Wr_46 d_Wr_make_174 45 (by decide) h26 rfl ?_
          refine G_aload_n hX 0 rfl rfl d_Wr_make_177 ?_
          refine F_get hX fg_Wr_50 d_Wr_make_178 53 (by decide) h56 rfl ?_
          refine G_aload_n hX 0 rfl rfl d_Wr_make_181 ?_
          refine F_get hX fg_Wr_82 d_Wr_make_182 53 (by decide) h56 rfl ?_
          refine G_iadd_z hX d_Wr_make_185 ?_
          refine G_icmp_ne_z hX (tgt := 209) d_Wr_make_186 rfl (by omega) (fun c64 => ?_) (fun c65 => ?_)
          · skip
            refine G_bipush hX (by decide) d_Wr_make_209 ?_
            first
              | (exfalso; omega)
              | skip
            have e9 : mkF K g t old N S m0 = some (pd, pc, pa, c, m, nr, sm, T) := hs.trans (cdS_e (by omega))
            have e8 : mkE K (mkF K g t old N S m0) = -2 := by rw [e9, mkE_s]; rw [if_pos (by omega)]
            rw [e8] at hE
            exact F_iret hX hE d_Wr_make_211 ⟨rfl, ⟨_, _, ⟨h26, h27⟩, hm, by omega, fun h9 => absurd h9 (by decide)⟩, ⟨_, _, h20⟩, ⟨_, _, h21⟩, ⟨_, _, h22⟩, ⟨_, _, _, _, _, ⟨h23, h24, h25⟩⟩, (Fr.tr (Fr.tr (Fr.tr (Fr.tr Fr.rf k7 (by decide)) k10 (by decide)) k14 (by decide)) k17 (by decide))⟩
          · skip
            refine G_aload_n hX 0 rfl rfl d_Wr_make_189 ?_
            refine F_get hX fg_Wr_18 d_Wr_make_190 53 (by decide) h56 rfl ?_
            refine F_callV hX (st := []) (c_Cu_left E f16 55 7 700 g pd (kD K) (by decide) (by decide) (by decide) h20 h57 (by omega)) cm_Cu_left im_Cu_left se_Cu_left rfl ml_Wr_68 d_Wr_make_193 (by decide) h20 rfl rfl (Nat.le_of_ble_eq_true rfl) (by decide) ?_
            rintro _ f66 ⟨rfl, e69⟩
            obtain rfl := e69.symm
            refine G_cast (st' := [.int (zI ((kD K) - pd))]) ?_ rfl rfl rfl rfl
            refine G_if_gt_z hX (tgt := 209) d_Wr_make_196 rfl (by omega) (fun c70 => ?_) (fun c71 => ?_)
            · skip
              refine G_bipush hX (by decide) d_Wr_make_209 ?_
              first
                | (exfalso; omega)
                | skip
              have e9 : mkF K g t old N S m0 = some (pd, pc, pa, c, m, nr, sm, T) := hs.trans (cdS_e (by omega))
              have e8 : mkE K (mkF K g t old N S m0) = -2 := by rw [e9, mkE_s]; rw [if_pos (by omega)]
              rw [e8] at hE
              exact F_iret hX hE d_Wr_make_211 ⟨rfl, ⟨_, _, ⟨h26, h27⟩, hm, by omega, fun h9 => absurd h9 (by decide)⟩, ⟨_, _, h20⟩, ⟨_, _, h21⟩, ⟨_, _, h22⟩, ⟨_, _, _, _, _, ⟨h23, h24, h25⟩⟩, (Fr.tr (Fr.tr (Fr.tr (Fr.tr Fr.rf k7 (by decide)) k10 (by decide)) k14 (by decide)) k17 (by decide))⟩
            · skip
              refine G_aload_n hX 0 rfl rfl d_Wr_make_199 ?_
              refine F_get hX fg_Wr_24 d_Wr_make_200 53 (by decide) h56 rfl ?_
              refine F_callV hX (st := []) (c_Cu_left E f16 57 7 700 g pa (kA K) (by decide) (by decide) (by decide) h22 h57 (by omega)) cm_Cu_left im_Cu_left se_Cu_left rfl ml_Wr_68 d_Wr_make_203 (by decide) h22 rfl rfl (Nat.le_of_ble_eq_true rfl) (by decide) ?_
              rintro _ f72 ⟨rfl, e75⟩
              obtain rfl := e75.symm
              refine G_cast (st' := [.int (zI ((kA K) - pa))]) ?_ rfl rfl rfl rfl
              refine G_if_le_z hX (tgt := 212) d_Wr_make_206 rfl (by omega) (fun c76 => ?_) (fun c77 => ?_)
              · skip
                refine G_aload_n hX 0 rfl rfl d_Wr_make_212 ?_
                refine F_get hX fg_Wr_61 d_Wr_make_213 53 (by decide) h56 rfl ?_
                refine G_if_eq_z hX (tgt := 250) d_Wr_make_216 rfl (by omega) (fun c78 => ?_) (fun c79 => ?_)
                · skip
                  refine G_iconst hX d_Wr_make_250 ?_
                  first
                    | (exfalso; omega)
                    | skip
                  have e9 : mkF K g t old N S m0 = some (pd, pc, pa, c, m, nr, sm, T) := hs.trans (cdS_e (by omega))
                  have e8 : mkE K (mkF K g t old N S m0) = 0 := by rw [e9, mkE_s]; rw [if_neg (by omega), if_neg (fun hq => by first | exact absurd hq.1 (by omega) | exact hq.2 heq)]
                  rw [e8] at hE
                  exact F_iret hX hE d_Wr_make_251 ⟨rfl, ⟨_, _, ⟨h26, h27⟩, hm, by omega, fun _ => ⟨by rw [e9]; rfl, by omega⟩⟩, ⟨_, _, h20⟩, ⟨_, _, h21⟩, ⟨_, _, h22⟩, ⟨_, _, _, _, _, ⟨h23, h24, h25⟩⟩, (Fr.tr (Fr.tr (Fr.tr (Fr.tr Fr.rf k7 (by decide)) k10 (by decide)) k14 (by decide)) k17 (by decide))⟩
                · skip
                  refine G_aload_n hX 0 rfl rfl d_Wr_make_219 ?_
                  refine F_get hX fg_Wr_39 d_Wr_make_220 53 (by decide) h56 rfl ?_
                  refine F_get hX fg_Wr_108 d_Wr_make_223 45 (by decide) h26 rfl ?_
                  refine G_aload_n hX 0 rfl rfl d_Wr_make_226 ?_
                  refine F_get hX fg_Wr_50 d_Wr_make_227 53 (by decide) h56 rfl ?_
                  refine G_aload_n hX 0 rfl rfl d_Wr_make_230 ?_
                  refine F_get hX fg_Wr_82 d_Wr_make_231 53 (by decide) h56 rfl ?_
                  refine F_callSN hX (st := []) (host := "DeltaFerry") (c_Df_checkOf E f16 46 300 m (kT K) (kZ K) (by decide) h27 hm (by omega)) cm_Df_checkOf sm_Df_checkOf (by decide +kernel) d_Wr_make_234 rfl rfl (Nat.le_of_ble_eq_true rfl) (by decide) ?_
                  rintro _ f80 ⟨rfl, e83⟩
                  obtain rfl := e83.symm
                  refine G_cast (st' := [.long (zL (adV m (kT K) (kZ K)))]) ?_ rfl rfl rfl rfl
                  refine G_aload_n hX 0 rfl rfl d_Wr_make_237 ?_
                  refine F_get hX fg_Wr_96 d_Wr_make_238 53 (by decide) h56 rfl ?_
                  refine G_lcmp hX d_Wr_make_241 ?_
                  have had := adS_b m (kT K) (kZ K).toNat
                  have had2 : 0 ≤ adV m (kT K) (kZ K) ∧ adV m (kT K) (kZ K) < 4294967296 := by unfold adV; omega
                  by_cases heq : adV m (kT K) (kZ K) = kV K
                  · skip
                    refine G_top (show (lg_cmp (zL (adV m (kT K) (kZ K))) (zL (kV K))) = zI 0 from by rw [heq]; exact (lg_cmp_eq _ _).mpr rfl) ?_
                    refine G_if_eq_z hX (tgt := 250) d_Wr_make_242 rfl (by omega) (fun c84 => ?_) (fun c85 => by exfalso; omega)
                    refine G_iconst hX d_Wr_make_250 ?_
                    first
                      | (exfalso; omega)
                      | skip
                    have e9 : mkF K g t old N S m0 = some (pd, pc, pa, c, m, nr, sm, T) := hs.trans (cdS_e (by omega))
                    have e8 : mkE K (mkF K g t old N S m0) = 0 := by rw [e9, mkE_s]; rw [if_neg (by omega), if_neg (fun hq => by first | exact absurd hq.1 (by omega) | exact hq.2 heq)]
                    rw [e8] at hE
                    exact F_iret hX hE d_Wr_make_251 ⟨rfl, ⟨_, _, ⟨h26, h27⟩, hm, by omega, fun _ => ⟨by rw [e9]; rfl, by omega⟩⟩, ⟨_, _, h20⟩, ⟨_, _, h21⟩, ⟨_, _, h22⟩, ⟨_, _, _, _, _, ⟨h23, h24, h25⟩⟩, (Fr.tr (Fr.tr (Fr.tr (Fr.tr Fr.rf k7 (by decide)) k10 (by decide)) k14 (by decide)) k17 (by decide))⟩
                  · skip
                    have hne : adV m (kT K) (kZ K) ≠ kV K := heq
                    refine G_if_eq hX (tgt := 250) d_Wr_make_242 rfl (fun c86 => by exact absurd ((zL_eq (by omega)).mp ((lg_cmp_eq _ _).mp ‹lg_cmp _ _ = 0›)) heq) (fun c87 => ?_)
                    refine G_bipush hX (by decide) d_Wr_make_245 ?_
                    refine G_goto hX (tgt := 251) d_Wr_make_247 rfl ?_
                    first
                      | (exfalso; omega)
                      | skip
                    have e9 : mkF K g t old N S m0 = some (pd, pc, pa, c, m, nr, sm, T) := hs.trans (cdS_e (by omega))
                    have e8 : mkE K (mkF K g t old N S m0) = -6 := by rw [e9, mkE_s]; rw [if_neg (by omega), if_pos ⟨by omega, hne⟩]
                    rw [e8] at hE
                    exact F_iret hX hE d_Wr_make_251 ⟨rfl, ⟨_, _, ⟨h26, h27⟩, hm, by omega, fun h9 => absurd h9 (by decide)⟩, ⟨_, _, h20⟩, ⟨_, _, h21⟩, ⟨_, _, h22⟩, ⟨_, _, _, _, _, ⟨h23, h24, h25⟩⟩, (Fr.tr (Fr.tr (Fr.tr (Fr.tr Fr.rf k7 (by decide)) k10 (by decide)) k14 (by decide)) k17 (by decide))⟩
              · skip
                refine G_bipush hX (by decide) d_Wr_make_209 ?_
                first
                  | (exfalso; omega)
                  | skip
                have e9 : mkF K g t old N S m0 = some (pd, pc, pa, c, m, nr, sm, T) := hs.trans (cdS_e (by omega))
                have e8 : mkE K (mkF K g t old N S m0) = -2 := by rw [e9, mkE_s]; rw [if_pos (by omega)]
                rw [e8] at hE
                exact F_iret hX hE d_Wr_make_211 ⟨rfl, ⟨_, _, ⟨h26, h27⟩, hm, by omega, fun h9 => absurd h9 (by decide)⟩, ⟨_, _, h20⟩, ⟨_, _, h21⟩, ⟨_, _, h22⟩, ⟨_, _, _, _, _, ⟨h23, h24, h25⟩⟩, (Fr.tr (Fr.tr (Fr.tr (Fr.tr Fr.rf k7 (by decide)) k10 (by decide)) k14 (by decide)) k17 (by decide))⟩
        · skip
          refine G_aload_n hX 0 rfl rfl d_Wr_make_30 ?_
          refine F_get hX fg_Wr_21 d_Wr_make_31 53 (by decide) h56 rfl ?_
          refine F_callV hX (st := []) (c_Cu_next E f16 56 7 700 g pc (kC K) (by decide) (by decide) (by decide) h21 h57 (by omega)) cm_Cu_next im_Cu_next se_Cu_next rfl ml_Wr_53 d_Wr_make_34 (by decide) h21 rfl rfl (Nat.le_of_ble_eq_true rfl) (by decide) ?_
          rintro _ f88 ⟨rfl, h91, k92⟩
          refine G_cast (st' := [.int (zI (nxV g pc (kC K)))]) ?_ rfl rfl rfl rfl
          have hlt : pc < kC K := by omega
          have h9p : isC E f88 56 7 (pc + 1) (kC K) := by have := h91; rw [nxP_lt hlt] at this; exact this
          refine G_top (show zI (nxV g pc (kC K)) = zI (g pc) from by rw [nxV_lt hlt]) ?_
          have hgp := hB pc
          refine G_istore hX (lv' := [(5, .int (zI (g pc))), (0, .ref (eA E 53)), (1, .ref (eA E 49)), (4, .int (zI i))]) (by decide) rfl d_Wr_make_37 ?_
          refine G_iconst hX d_Wr_make_39 ?_
          refine G_istore hX (lv' := [(6, .int (zI 0)), (5, .int (zI (g pc))), (0, .ref (eA E 53)), (1, .ref (eA E 49)), (4, .int (zI i))]) (by decide) rfl d_Wr_make_40 ?_
          have loop93 : ∀ (q : Nat) (h : Int) (pd1 : Int) (pc1 : Int) (pa1 : Int) (c1 : Int) (m1 : Int → Int) (nr1 : Int → Int) (sm1 : Int → Int) (T1 : Int) (f94 : Nat → va_E), (2 - h).toNat < q → (0 ≤ h ∧ h ≤ 2) → ((0 ≤ pd1 ∧ pd1 ≤ kD K) ∧ (0 ≤ pc1 ∧ pc1 ≤ kC K) ∧ (0 ≤ pa1 ∧ pa1 ≤ kA K) ∧ (kT K ≤ c1 ∧ c1 ≤ kT K + kZ K) ∧ (0 ≤ T1 ∧ T1 < 8)) → (isB m1) → (∀ k, 0 ≤ nr1 k ∧ nr1 k < 100000) → (∀ k, 0 ≤ sm1 k ∧ sm1 k < 100000) → (mkF K g t old N S m0 = hcS K g t old N S (g pc) (700 - (i + 1)).toNat (2 - h).toNat h pd1 pc1 pa1 c1 m1 nr1 sm1 T1) → f94 55 = ob 1 [.ref (eA E 7), .int (zI pd1), .int (zI (kD K))] → f94 56 = ob 1 [.ref (eA E 7), .int (zI pc1), .int (zI (kC K))] → f94 57 = ob 1 [.ref (eA E 7), .int (zI pa1), .int (zI (kA K))] → f94 58 = ob 0 [.ref (eA E 59), .ref (eA E 60), .int (zI N), .int (zI S), .int (zI T1)] → f94 59 = iz E 8 nr1 → f94 60 = iz E 1024 sm1 → f94 45 = ob 6 [.ref (eA E 46), .int (zI c1)] → f94 46 = iz E 300 m1 → Fr [55, 56, 57, 58, 59, 60, 45, 46] f88 f94 → G E X 0 0 42 [(0, .ref (eA E 53)), (1, .ref (eA E 49)), (4, .int (zI i)), (5, .int (zI (g pc))), (6, .int (zI h))] [] (wl E f94) := by
            intro q
            induction q with
            | zero => intro h pd1 pc1 pa1 c1 m1 nr1 sm1 T1 f94 hms96; exact absurd hms96 (Nat.not_lt_zero _)
            | succ q ih97 =>
              intro h pd1 pc1 pa1 c1 m1 nr1 sm1 T1 f94 hms96 hh hb1 hm1 hnr1 hsm1 hs1 h98 h99 h100 h101 h102 h103 h104 h105 k95
              have hgp2 := hB pc
              refine G_iload hX 4 rfl d_Wr_make_42 ?_
              refine G_iconst hX d_Wr_make_44 ?_
              refine G_icmp_ge_z hX (tgt := 164) d_Wr_make_45 rfl (by omega) (fun c106 => ?_) (fun c107 => ?_)
              · skip
                refine G_iinc_z hX (lv' := [(4, .int (zI (i + 1))), (0, .ref (eA E 53)), (1, .ref (eA E 49)), (5, .int (zI (g pc))), (6, .int (zI h))]) 2 rfl (by decide) rfl d_Wr_make_164 ?_
                refine G_goto hX (tgt := 12) d_Wr_make_167 rfl ?_
                refine G_loc (lv' := [(0, .ref (eA E 53)), (1, .ref (eA E 49)), (4, .int (zI (i + 1)))]) [1, 2, 0] rfl ?_
                exact ih19 (i + 1) pd1 pc1 pa1 c1 m1 nr1 sm1 T1 f94 (by omega) (by omega) (by omega) hm1 hnr1 hsm1 (hs1.trans (hcS_e (by omega))) h98 h99 h100 h101 h102 h103 h104 h105 (Fr.tr (Fr.tr (Fr.tr Fr.rf k17 (by decide)) k92 (by decide)) k95 (by decide))
              · skip
                refine G_sipush hX (by decide) d_Wr_make_48 ?_
                refine G_iload hX 4 rfl d_Wr_make_51 ?_
                refine G_imul_z hX d_Wr_make_53 ?_
                refine G_iload hX 3 rfl d_Wr_make_54 ?_
                refine G_iadd_z hX d_Wr_make_56 ?_
                refine G_istore hX (lv' := [(7, .int (zI ((256 * h) + (g pc)))), (0, .ref (eA E 53)), (1, .ref (eA E 49)), (4, .int (zI i)), (5, .int (zI (g pc))), (6, .int (zI h))]) (by decide) rfl d_Wr_make_57 ?_
                refine G_aload_n hX 2 rfl rfl d_Wr_make_59 ?_
                have h108 : f94 49 = ob 6 [.ref (eA E 50), .int (zI tc)] := (k95 49 (by decide)).trans ((k92 49 (by decide)).trans ((k17 49 (by decide)).trans ((k14 49 (by decide)).trans ((k10 49 (by decide)).trans ((k7 49 (by decide)).trans hTb.1)))))
                refine F_get hX fg_Wr_108 d_Wr_make_60 49 (by decide) h108 rfl ?_
                refine G_iload hX 0 rfl d_Wr_make_63 ?_
                have h109 : f94 50 = iz E 1536 t := (k95 50 (by decide)).trans ((k92 50 (by decide)).trans ((k17 50 (by decide)).trans ((k14 50 (by decide)).trans ((k10 50 (by decide)).trans ((k7 50 (by decide)).trans hTb.2)))))
                refine F_iald hX d_Wr_make_65 50 (by decide) h109 (by omega) ?_
                have b110 := htB ((256 * h) + (g pc))
                refine G_istore hX (lv' := [(8, .int (zI (t ((256 * h) + (g pc))))), (7, .int (zI ((256 * h) + (g pc)))), (0, .ref (eA E 53)), (1, .ref (eA E 49)), (4, .int (zI i)), (5, .int (zI (g pc))), (6, .int (zI h))]) (by decide) rfl d_Wr_make_66 ?_
                refine G_iload hX 0 rfl d_Wr_make_68 ?_
                by_cases ht0 : t (256 * h + g pc) = 0
                · skip
                  refine G_if_ne_z hX (tgt := 77) d_Wr_make_70 rfl (by omega) (fun c111 => by exfalso; omega) (fun c112 => ?_)
                  refine G_iconst hX d_Wr_make_73 ?_
                  refine G_goto hX (tgt := 92) d_Wr_make_74 rfl ?_
                  refine G_istore hX (lv' := [(9, .int (zI 0)), (8, .int (zI (t ((256 * h) + (g pc))))), (7, .int (zI ((256 * h) + (g pc)))), (0, .ref (eA E 53)), (1, .ref (eA E 49)), (4, .int (zI i)), (5, .int (zI (g pc))), (6, .int (zI h))]) (by decide) rfl d_Wr_make_92 ?_
                  refine G_iload hX 0 rfl d_Wr_make_94 ?_
                  refine G_if_lt_z hX (tgt := 155) d_Wr_make_96 rfl (by omega) (fun c113 => by exfalso; omega) (fun c114 => ?_)
                  refine G_iload hX 1 rfl d_Wr_make_99 ?_
                  refine G_iconst hX d_Wr_make_101 ?_
                  refine G_icmp_ne_z hX (tgt := 114) d_Wr_make_102 rfl (by omega) (fun c115 => ?_) (fun c116 => by exfalso; omega)
                  refine G_iload hX 1 rfl d_Wr_make_114 ?_
                  refine G_iconst hX d_Wr_make_116 ?_
                  refine G_icmp_ne_z hX (tgt := 129) d_Wr_make_117 rfl (by omega) (fun c117 => ?_) (fun c118 => by exfalso; omega)
                  refine G_iload hX 1 rfl d_Wr_make_129 ?_
                  refine G_iconst hX d_Wr_make_131 ?_
                  refine G_icmp_ne_z hX (tgt := 158) d_Wr_make_132 rfl (by omega) (fun c119 => ?_) (fun c120 => by exfalso; omega)
                  refine G_iinc_z hX (lv' := [(6, .int (zI (h + 1))), (9, .int (zI 0)), (8, .int (zI (t ((256 * h) + (g pc))))), (7, .int (zI ((256 * h) + (g pc)))), (0, .ref (eA E 53)), (1, .ref (eA E 49)), (4, .int (zI i)), (5, .int (zI (g pc)))]) 7 rfl (by decide) rfl d_Wr_make_158 ?_
                  refine G_goto hX (tgt := 42) d_Wr_make_161 rfl ?_
                  have e7 : inS K g t old N S (256 * h + g pc) pd1 pc1 pa1 c1 m1 nr1 sm1 T1 = some (pd1, pc1, pa1, c1, m1, nr1, sm1, T1) := by unfold inS; rw [if_pos (by omega)]
                  refine G_loc (lv' := [(0, .ref (eA E 53)), (1, .ref (eA E 49)), (4, .int (zI i)), (5, .int (zI (g pc))), (6, .int (zI (h + 1)))]) [4, 5, 6, 7, 0] rfl ?_
                  exact ih97 (h + 1) pd1 pc1 pa1 c1 m1 nr1 sm1 T1 f94 (by omega) (by omega) (by omega) hm1 hnr1 hsm1 (hs1.trans (hcS_s (by omega) e7)) h98 h99 h100 h101 h102 h103 h104 h105 (Fr.tr Fr.rf k95 (by decide))
                · skip
                  refine G_if_ne_z hX (tgt := 77) d_Wr_make_70 rfl (by omega) (fun c121 => ?_) (fun c122 => by exfalso; omega)
                  refine G_aload_n hX 2 rfl rfl d_Wr_make_77 ?_
                  refine G_aload_n hX 3 rfl rfl d_Wr_make_78 ?_
                  refine F_get hX fg_Wr_108 d_Wr_make_79 49 (by decide) h108 rfl ?_
                  refine G_sipush hX (by decide) d_Wr_make_82 ?_
                  refine G_iload hX 1 rfl d_Wr_make_85 ?_
                  refine G_iadd_z hX d_Wr_make_87 ?_
                  refine F_iald hX d_Wr_make_88 50 (by decide) h109 (by omega) ?_
                  have b123 := htB (512 + ((256 * h) + (g pc)))
                  have h124 : f94 53 = ob 9 [.ref (eA E 54), .ref (eA E 55), .ref (eA E 56), .ref (eA E 57), .ref (eA E 58), .ref (eA E 45), .ref (eA E (if kO K = 2 then 45 else 2)), .int (zI (kF K)), .int (zI (kS K)), .int (zI (kT K)), .int (zI (kZ K)), .int (zI (kK K)), .long (zL (kV K))] := (k95 53 (by decide)).trans ((k92 53 (by decide)).trans h56)
                  have h125 : f94 7 = iz E 700 g := (k95 7 (by decide)).trans ((k92 7 (by decide)).trans h57)
                  have h126 : f94 2 = ob 6 [.ref (eA E 3), .int (zI oc)] := (k95 2 (by decide)).trans ((k92 2 (by decide)).trans ((k17 2 (by decide)).trans ((k14 2 (by decide)).trans ((k10 2 (by decide)).trans ((k7 2 (by decide)).trans hO.1)))))
                  have h127 : f94 3 = iz E 300 old := (k95 3 (by decide)).trans ((k92 3 (by decide)).trans ((k17 3 (by decide)).trans ((k14 3 (by decide)).trans ((k10 3 (by decide)).trans ((k7 3 (by decide)).trans hO.2)))))
                  refine F_callV hX (st := []) (c_Wr_readSizeR E f94 K g m1 pc1 c1 (t (512 + ((256 * h) + (g pc)))) h124 h125 hB ⟨h104, h105⟩ hm1 (by omega) h99 (by omega) (by omega)) cm_Wr_readSize im_Wr_readSize se_Wr_readSize rfl ml_Wr_109 d_Wr_make_89 (by decide) h124 rfl rfl (Nat.le_of_ble_eq_true rfl) (by decide) ?_
                  rintro _ f128 ⟨rfl, h131, k132⟩
                  refine G_cast (st' := [.int (zI (if (szR g (kC K) (t (512 + ((256 * h) + (g pc)))) pc1).1 ≤ kT K + kZ K - c1 then (szR g (kC K) (t (512 + ((256 * h) + (g pc)))) pc1).1 else -1))]) ?_ rfl rfl rfl rfl
                  have hsb := szR_b (g := g) (e := kC K) (ic := t (512 + ((256 * h) + (g pc)))) (pc := pc1) hB (by omega) (by omega)
                  by_cases hsz : 0 ≤ (szR g (kC K) (t (512 + ((256 * h) + (g pc)))) pc1).1 ∧ (szR g (kC K) (t (512 + ((256 * h) + (g pc)))) pc1).1 ≤ kT K + kZ K - c1
                  · skip
                    refine G_top (show zI (if (szR g (kC K) (t (512 + ((256 * h) + (g pc)))) pc1).1 ≤ kT K + kZ K - c1 then (szR g (kC K) (t (512 + ((256 * h) + (g pc)))) pc1).1 else -1) = zI ((szR g (kC K) (t (512 + ((256 * h) + (g pc)))) pc1).1) from by rw [if_pos (by omega)]) ?_
                    have ht3b := ht3 (256 * h + g pc) (by omega) (by omega)
                    by_cases hty : t (256 * h + g pc) = 1
                    · skip
                      refine G_istore hX (lv' := [(9, .int (zI ((szR g (kC K) (t (512 + ((256 * h) + (g pc)))) pc1).1))), (8, .int (zI (t ((256 * h) + (g pc))))), (7, .int (zI ((256 * h) + (g pc)))), (0, .ref (eA E 53)), (1, .ref (eA E 49)), (4, .int (zI i)), (5, .int (zI (g pc))), (6, .int (zI h))]) (by decide) rfl d_Wr_make_92 ?_
                      refine G_iload hX 0 rfl d_Wr_make_94 ?_
                      refine G_if_lt_z hX (tgt := 155) d_Wr_make_96 rfl (by omega) (fun c133 => by exfalso; omega) (fun c134 => ?_)
                      refine G_iload hX 1 rfl d_Wr_make_99 ?_
                      refine G_iconst hX d_Wr_make_101 ?_
                      refine G_icmp_ne_z hX (tgt := 114) d_Wr_make_102 rfl (by omega) (fun c135 => by exfalso; omega) (fun c136 => ?_)
                      refine G_aload_n hX 3 rfl rfl d_Wr_make_105 ?_
                      refine G_iload hX 0 rfl d_Wr_make_106 ?_
                      have h137 : f128 53 = ob 9 [.ref (eA E 54), .ref (eA E 55), .ref (eA E 56), .ref (eA E 57), .ref (eA E 58), .ref (eA E 45), .ref (eA E (if kO K = 2 then 45 else 2)), .int (zI (kF K)), .int (zI (kS K)), .int (zI (kT K)), .int (zI (kZ K)), .int (zI (kK K)), .long (zL (kV K))] := (k132 53 (by decide)).trans h124
                      have h138 : f128 55 = ob 1 [.ref (eA E 7), .int (zI pd1), .int (zI (kD K))] := (k132 55 (by decide)).trans h98
                      have h139 : f128 57 = ob 1 [.ref (eA E 7), .int (zI pa1), .int (zI (kA K))] := (k132 57 (by decide)).trans h100
                      have h140 : f128 45 = ob 6 [.ref (eA E 46), .int (zI c1)] := (k132 45 (by decide)).trans h104
                      have h141 : f128 46 = iz E 300 m1 := (k132 46 (by decide)).trans h105
                      have h142 : f128 59 = iz E 8 nr1 := (k132 59 (by decide)).trans h102
                      have h143 : f128 60 = iz E 1024 sm1 := (k132 60 (by decide)).trans h103
                      have h144 : f128 58 = ob 0 [.ref (eA E 59), .ref (eA E 60), .int (zI N), .int (zI S), .int (zI T1)] := (k132 58 (by decide)).trans h101
                      have h145 : f128 7 = iz E 700 g := (k132 7 (by decide)).trans h125
                      have h146 : f128 2 = ob 6 [.ref (eA E 3), .int (zI oc)] := (k132 2 (by decide)).trans h126
                      have h147 : f128 3 = iz E 300 old := (k132 3 (by decide)).trans h127
                      refine F_callV hX (st := []) (c_Wr_makeAddR E f128 K g m1 pd1 c1 ((szR g (kC K) (t (512 + ((256 * h) + (g pc)))) pc1).1) h137 h145 hB ⟨h140, h141⟩ hm1 (by omega) h138 (by omega) (by omega)) cm_Wr_makeAdd im_Wr_makeAdd se_Wr_makeAdd rfl ml_Wr_113 d_Wr_make_108 (by decide) h137 rfl rfl (Nat.le_of_ble_eq_true rfl) (by decide) ?_
                      rintro _ f148 (⟨h9, rfl, ⟨h9a, h9b⟩, h9c, k9⟩ | ⟨h9, rfl, h9e⟩)
                      · skip
                        refine G_cast (st' := [.int (zI 1)]) ?_ rfl rfl rfl rfl
                        refine G_if_eq_z hX (tgt := 155) d_Wr_make_111 rfl (by omega) (fun c153 => by exfalso; omega) (fun c154 => ?_)
                        refine G_iload hX 1 rfl d_Wr_make_114 ?_
                        refine G_iconst hX d_Wr_make_116 ?_
                        refine G_icmp_ne_z hX (tgt := 129) d_Wr_make_117 rfl (by omega) (fun c155 => ?_) (fun c156 => by exfalso; omega)
                        refine G_iload hX 1 rfl d_Wr_make_129 ?_
                        refine G_iconst hX d_Wr_make_131 ?_
                        refine G_icmp_ne_z hX (tgt := 158) d_Wr_make_132 rfl (by omega) (fun c157 => ?_) (fun c158 => by exfalso; omega)
                        refine G_iinc_z hX (lv' := [(6, .int (zI (h + 1))), (9, .int (zI ((szR g (kC K) (t (512 + ((256 * h) + (g pc)))) pc1).1))), (8, .int (zI (t ((256 * h) + (g pc))))), (7, .int (zI ((256 * h) + (g pc)))), (0, .ref (eA E 53)), (1, .ref (eA E 49)), (4, .int (zI i)), (5, .int (zI (g pc)))]) 7 rfl (by decide) rfl d_Wr_make_158 ?_
                        refine G_goto hX (tgt := 42) d_Wr_make_161 rfl ?_
                        have h159 : f148 56 = ob 1 [.ref (eA E 7), .int (zI ((szR g (kC K) (t (512 + ((256 * h) + (g pc)))) pc1).2)), .int (zI (kC K))] := (k9 56 (by decide)).trans h131
                        have h160 : f148 57 = ob 1 [.ref (eA E 7), .int (zI pa1), .int (zI (kA K))] := (k9 57 (by decide)).trans h139
                        have h161 : f148 59 = iz E 8 nr1 := (k9 59 (by decide)).trans h142
                        have h162 : f148 60 = iz E 1024 sm1 := (k9 60 (by decide)).trans h143
                        have h163 : f148 58 = ob 0 [.ref (eA E 59), .ref (eA E 60), .int (zI N), .int (zI S), .int (zI T1)] := (k9 58 (by decide)).trans h144
                        have e7 : inS K g t old N S (256 * h + g pc) pd1 pc1 pa1 c1 m1 nr1 sm1 T1 = some (pd1 + (szR g (kC K) (t (512 + ((256 * h) + (g pc)))) pc1).1, (szR g (kC K) (t (512 + ((256 * h) + (g pc)))) pc1).2, pa1, c1 + (szR g (kC K) (t (512 + ((256 * h) + (g pc)))) pc1).1, cz g m1 pd1 c1 ((szR g (kC K) (t (512 + ((256 * h) + (g pc)))) pc1).1), nr1, sm1, T1) := by unfold inS; rw [if_neg (by omega), if_neg (by omega), if_pos (by omega), if_neg (by omega)]
                        refine G_loc (lv' := [(0, .ref (eA E 53)), (1, .ref (eA E 49)), (4, .int (zI i)), (5, .int (zI (g pc))), (6, .int (zI (h + 1)))]) [4, 5, 6, 7, 0] rfl ?_
                        exact ih97 (h + 1) (pd1 + (szR g (kC K) (t (512 + ((256 * h) + (g pc)))) pc1).1) ((szR g (kC K) (t (512 + ((256 * h) + (g pc)))) pc1).2) pa1 (c1 + (szR g (kC K) (t (512 + ((256 * h) + (g pc)))) pc1).1) (cz g m1 pd1 c1 ((szR g (kC K) (t (512 + ((256 * h) + (g pc)))) pc1).1)) nr1 sm1 T1 f148 (by omega) (by omega) (by omega) (isB_cz hB hm1) hnr1 hsm1 (hs1.trans (hcS_s (by omega) e7)) h9c h159 h160 h163 h161 h162 h9a h9b (Fr.tr (Fr.tr (Fr.tr Fr.rf k95 (by decide)) k132 (by decide)) k9 (by decide))
                      · skip
                        obtain rfl := h9e.symm
                        refine G_cast (st' := [.int (zI 0)]) ?_ rfl rfl rfl rfl
                        have e7 : inS K g t old N S (256 * h + g pc) pd1 pc1 pa1 c1 m1 nr1 sm1 T1 = none := by unfold inS; rw [if_neg ht0, if_neg (by omega), if_pos (by omega), if_pos (by omega)]
                        have e9 : mkF K g t old N S m0 = none := hs1.trans (hcS_n (by omega) e7)
                        refine G_if_eq_z hX (tgt := 155) d_Wr_make_111 rfl (by omega) (fun c164 => ?_) (fun c165 => by exfalso; omega)
                        refine G_bipush hX (by decide) d_Wr_make_155 ?_
                        have e8 : mkE K (mkF K g t old N S m0) = -2 := by rw [e9]; rfl
                        rw [e8] at hE
                        exact F_iret hX hE d_Wr_make_157 ⟨rfl, ⟨_, _, ⟨h140, h141⟩, hm1, by omega, fun h9 => absurd h9 (by decide)⟩, ⟨_, _, h138⟩, ⟨_, _, h131⟩, ⟨_, _, h139⟩, ⟨_, _, _, _, _, ⟨h144, h142, h143⟩⟩, (Fr.tr (Fr.tr (Fr.tr (Fr.tr (Fr.tr (Fr.tr (Fr.tr Fr.rf k7 (by decide)) k10 (by decide)) k14 (by decide)) k17 (by decide)) k92 (by decide)) k95 (by decide)) k132 (by decide))⟩
                    · skip
                      by_cases hty2 : t (256 * h + g pc) = 2
                      · skip
                        refine G_istore hX (lv' := [(9, .int (zI ((szR g (kC K) (t (512 + ((256 * h) + (g pc)))) pc1).1))), (8, .int (zI (t ((256 * h) + (g pc))))), (7, .int (zI ((256 * h) + (g pc)))), (0, .ref (eA E 53)), (1, .ref (eA E 49)), (4, .int (zI i)), (5, .int (zI (g pc))), (6, .int (zI h))]) (by decide) rfl d_Wr_make_92 ?_
                        refine G_iload hX 0 rfl d_Wr_make_94 ?_
                        refine G_if_lt_z hX (tgt := 155) d_Wr_make_96 rfl (by omega) (fun c166 => by exfalso; omega) (fun c167 => ?_)
                        refine G_iload hX 1 rfl d_Wr_make_99 ?_
                        refine G_iconst hX d_Wr_make_101 ?_
                        refine G_icmp_ne_z hX (tgt := 114) d_Wr_make_102 rfl (by omega) (fun c168 => ?_) (fun c169 => by exfalso; omega)
                        refine G_iload hX 1 rfl d_Wr_make_114 ?_
                        refine G_iconst hX d_Wr_make_116 ?_
                        refine G_icmp_ne_z hX (tgt := 129) d_Wr_make_117 rfl (by omega) (fun c170 => by exfalso; omega) (fun c171 => ?_)
                        refine G_aload_n hX 3 rfl rfl d_Wr_make_120 ?_
                        refine G_iload hX 0 rfl d_Wr_make_121 ?_
                        have h172 : f128 53 = ob 9 [.ref (eA E 54), .ref (eA E 55), .ref (eA E 56), .ref (eA E 57), .ref (eA E 58), .ref (eA E 45), .ref (eA E (if kO K = 2 then 45 else 2)), .int (zI (kF K)), .int (zI (kS K)), .int (zI (kT K)), .int (zI (kZ K)), .int (zI (kK K)), .long (zL (kV K))] := (k132 53 (by decide)).trans h124
                        have h173 : f128 55 = ob 1 [.ref (eA E 7), .int (zI pd1), .int (zI (kD K))] := (k132 55 (by decide)).trans h98
                        have h174 : f128 57 = ob 1 [.ref (eA E 7), .int (zI pa1), .int (zI (kA K))] := (k132 57 (by decide)).trans h100
                        have h175 : f128 45 = ob 6 [.ref (eA E 46), .int (zI c1)] := (k132 45 (by decide)).trans h104
                        have h176 : f128 46 = iz E 300 m1 := (k132 46 (by decide)).trans h105
                        have h177 : f128 59 = iz E 8 nr1 := (k132 59 (by decide)).trans h102
                        have h178 : f128 60 = iz E 1024 sm1 := (k132 60 (by decide)).trans h103
                        have h179 : f128 58 = ob 0 [.ref (eA E 59), .ref (eA E 60), .int (zI N), .int (zI S), .int (zI T1)] := (k132 58 (by decide)).trans h101
                        have h180 : f128 7 = iz E 700 g := (k132 7 (by decide)).trans h125
                        have h181 : f128 2 = ob 6 [.ref (eA E 3), .int (zI oc)] := (k132 2 (by decide)).trans h126
                        have h182 : f128 3 = iz E 300 old := (k132 3 (by decide)).trans h127
                        refine F_callV hX (st := []) (c_Wr_makeRunR E f128 K g m1 pd1 c1 ((szR g (kC K) (t (512 + ((256 * h) + (g pc)))) pc1).1) h172 h180 hB ⟨h175, h176⟩ hm1 (by omega) h173 (by omega) (by omega)) cm_Wr_makeRun im_Wr_makeRun se_Wr_makeRun rfl ml_Wr_117 d_Wr_make_123 (by decide) h172 rfl rfl (Nat.le_of_ble_eq_true rfl) (by decide) ?_
                        rintro _ f183 (⟨h9, rfl, ⟨h9a, h9b⟩, h9c, k9⟩ | ⟨h9, rfl, h9c, k9⟩)
                        · skip
                          refine G_cast (st' := [.int (zI 1)]) ?_ rfl rfl rfl rfl
                          refine G_if_eq_z hX (tgt := 155) d_Wr_make_126 rfl (by omega) (fun c188 => by exfalso; omega) (fun c189 => ?_)
                          refine G_iload hX 1 rfl d_Wr_make_129 ?_
                          refine G_iconst hX d_Wr_make_131 ?_
                          refine G_icmp_ne_z hX (tgt := 158) d_Wr_make_132 rfl (by omega) (fun c190 => ?_) (fun c191 => by exfalso; omega)
                          refine G_iinc_z hX (lv' := [(6, .int (zI (h + 1))), (9, .int (zI ((szR g (kC K) (t (512 + ((256 * h) + (g pc)))) pc1).1))), (8, .int (zI (t ((256 * h) + (g pc))))), (7, .int (zI ((256 * h) + (g pc)))), (0, .ref (eA E 53)), (1, .ref (eA E 49)), (4, .int (zI i)), (5, .int (zI (g pc)))]) 7 rfl (by decide) rfl d_Wr_make_158 ?_
                          refine G_goto hX (tgt := 42) d_Wr_make_161 rfl ?_
                          have h192 : f183 56 = ob 1 [.ref (eA E 7), .int (zI ((szR g (kC K) (t (512 + ((256 * h) + (g pc)))) pc1).2)), .int (zI (kC K))] := (k9 56 (by decide)).trans h131
                          have h193 : f183 57 = ob 1 [.ref (eA E 7), .int (zI pa1), .int (zI (kA K))] := (k9 57 (by decide)).trans h174
                          have h194 : f183 59 = iz E 8 nr1 := (k9 59 (by decide)).trans h177
                          have h195 : f183 60 = iz E 1024 sm1 := (k9 60 (by decide)).trans h178
                          have h196 : f183 58 = ob 0 [.ref (eA E 59), .ref (eA E 60), .int (zI N), .int (zI S), .int (zI T1)] := (k9 58 (by decide)).trans h179
                          have e7 : inS K g t old N S (256 * h + g pc) pd1 pc1 pa1 c1 m1 nr1 sm1 T1 = some (pd1 + 1, (szR g (kC K) (t (512 + ((256 * h) + (g pc)))) pc1).2, pa1, c1 + (szR g (kC K) (t (512 + ((256 * h) + (g pc)))) pc1).1, pz m1 c1 (fun _ => g pd1) ((szR g (kC K) (t (512 + ((256 * h) + (g pc)))) pc1).1), nr1, sm1, T1) := by unfold inS; rw [if_neg (by omega), if_neg (by omega), if_neg (by omega), if_pos (by omega), if_neg (by omega)]
                          refine G_loc (lv' := [(0, .ref (eA E 53)), (1, .ref (eA E 49)), (4, .int (zI i)), (5, .int (zI (g pc))), (6, .int (zI (h + 1)))]) [4, 5, 6, 7, 0] rfl ?_
                          exact ih97 (h + 1) (pd1 + 1) ((szR g (kC K) (t (512 + ((256 * h) + (g pc)))) pc1).2) pa1 (c1 + (szR g (kC K) (t (512 + ((256 * h) + (g pc)))) pc1).1) (pz m1 c1 (fun _ => g pd1) ((szR g (kC K) (t (512 + ((256 * h) + (g pc)))) pc1).1)) nr1 sm1 T1 f183 (by omega) (by omega) (by omega) (isB_pz hm1 (fun _ => hB _)) hnr1 hsm1 (hs1.trans (hcS_s (by omega) e7)) h9c h192 h193 h196 h194 h195 h9a h9b (Fr.tr (Fr.tr (Fr.tr Fr.rf k95 (by decide)) k132 (by decide)) k9 (by decide))
                        · skip
                          refine G_cast (st' := [.int (zI 0)]) ?_ rfl rfl rfl rfl
                          have e7 : inS K g t old N S (256 * h + g pc) pd1 pc1 pa1 c1 m1 nr1 sm1 T1 = none := by unfold inS; rw [if_neg ht0, if_neg (by omega), if_neg (by omega), if_pos (by omega), if_pos (by omega)]
                          have e9 : mkF K g t old N S m0 = none := hs1.trans (hcS_n (by omega) e7)
                          refine G_if_eq_z hX (tgt := 155) d_Wr_make_126 rfl (by omega) (fun c197 => ?_) (fun c198 => by exfalso; omega)
                          refine G_bipush hX (by decide) d_Wr_make_155 ?_
                          have e8 : mkE K (mkF K g t old N S m0) = -2 := by rw [e9]; rfl
                          rw [e8] at hE
                          have h199 : f183 46 = iz E 300 m1 := (k9 46 (by decide)).trans h176
                          have h200 : f183 45 = ob 6 [.ref (eA E 46), .int (zI c1)] := (k9 45 (by decide)).trans h175
                          have h201 : f183 56 = ob 1 [.ref (eA E 7), .int (zI ((szR g (kC K) (t (512 + ((256 * h) + (g pc)))) pc1).2)), .int (zI (kC K))] := (k9 56 (by decide)).trans h131
                          have h202 : f183 57 = ob 1 [.ref (eA E 7), .int (zI pa1), .int (zI (kA K))] := (k9 57 (by decide)).trans h174
                          have h203 : f183 58 = ob 0 [.ref (eA E 59), .ref (eA E 60), .int (zI N), .int (zI S), .int (zI T1)] := (k9 58 (by decide)).trans h179
                          have h204 : f183 59 = iz E 8 nr1 := (k9 59 (by decide)).trans h177
                          have h205 : f183 60 = iz E 1024 sm1 := (k9 60 (by decide)).trans h178
                          exact F_iret hX hE d_Wr_make_157 ⟨rfl, ⟨_, _, ⟨h200, h199⟩, hm1, by omega, fun h9 => absurd h9 (by decide)⟩, ⟨_, _, h9c⟩, ⟨_, _, h201⟩, ⟨_, _, h202⟩, ⟨_, _, _, _, _, ⟨h203, h204, h205⟩⟩, (Fr.tr (Fr.tr (Fr.tr (Fr.tr (Fr.tr (Fr.tr (Fr.tr (Fr.tr Fr.rf k7 (by decide)) k10 (by decide)) k14 (by decide)) k17 (by decide)) k92 (by decide)) k95 (by decide)) k132 (by decide)) k9 (by decide))⟩
                      · skip
                        refine G_istore hX (lv' := [(9, .int (zI ((szR g (kC K) (t (512 + ((256 * h) + (g pc)))) pc1).1))), (8, .int (zI (t ((256 * h) + (g pc))))), (7, .int (zI ((256 * h) + (g pc)))), (0, .ref (eA E 53)), (1, .ref (eA E 49)), (4, .int (zI i)), (5, .int (zI (g pc))), (6, .int (zI h))]) (by decide) rfl d_Wr_make_92 ?_
                        refine G_iload hX 0 rfl d_Wr_make_94 ?_
                        refine G_if_lt_z hX (tgt := 155) d_Wr_make_96 rfl (by omega) (fun c206 => by exfalso; omega) (fun c207 => ?_)
                        refine G_iload hX 1 rfl d_Wr_make_99 ?_
                        refine G_iconst hX d_Wr_make_101 ?_
                        refine G_icmp_ne_z hX (tgt := 114) d_Wr_make_102 rfl (by omega) (fun c208 => ?_) (fun c209 => by exfalso; omega)
                        refine G_iload hX 1 rfl d_Wr_make_114 ?_
                        refine G_iconst hX d_Wr_make_116 ?_
                        refine G_icmp_ne_z hX (tgt := 129) d_Wr_make_117 rfl (by omega) (fun c210 => ?_) (fun c211 => by exfalso; omega)
                        refine G_iload hX 1 rfl d_Wr_make_129 ?_
                        refine G_iconst hX d_Wr_make_131 ?_
                        refine G_icmp_ne_z hX (tgt := 158) d_Wr_make_132 rfl (by omega) (fun c212 => by exfalso; omega) (fun c213 => ?_)
                        refine G_aload_n hX 3 rfl rfl d_Wr_make_135 ?_
                        refine G_iload hX 0 rfl d_Wr_make_136 ?_
                        refine G_aload_n hX 4 rfl rfl d_Wr_make_138 ?_
                        have h214 : f128 49 = ob 6 [.ref (eA E 50), .int (zI tc)] := (k132 49 (by decide)).trans h108
                        refine F_get hX fg_Wr_108 d_Wr_make_139 49 (by decide) h214 rfl ?_
                        refine G_sipush hX (by decide) d_Wr_make_142 ?_
                        refine G_iload hX 2 rfl d_Wr_make_145 ?_
                        refine G_iadd_z hX d_Wr_make_147 ?_
                        have h215 : f128 50 = iz E 1536 t := (k132 50 (by decide)).trans h109
                        refine F_iald hX d_Wr_make_148 50 (by decide) h215 (by omega) ?_
                        have b216 := htB (1024 + ((256 * h) + (g pc)))
                        have h217 : f128 53 = ob 9 [.ref (eA E 54), .ref (eA E 55), .ref (eA E 56), .ref (eA E 57), .ref (eA E 58), .ref (eA E 45), .ref (eA E (if kO K = 2 then 45 else 2)), .int (zI (kF K)), .int (zI (kS K)), .int (zI (kT K)), .int (zI (kZ K)), .int (zI (kK K)), .long (zL (kV K))] := (k132 53 (by decide)).trans h124
                        have h218 : f128 55 = ob 1 [.ref (eA E 7), .int (zI pd1), .int (zI (kD K))] := (k132 55 (by decide)).trans h98
                        have h219 : f128 57 = ob 1 [.ref (eA E 7), .int (zI pa1), .int (zI (kA K))] := (k132 57 (by decide)).trans h100
                        have h220 : f128 45 = ob 6 [.ref (eA E 46), .int (zI c1)] := (k132 45 (by decide)).trans h104
                        have h221 : f128 46 = iz E 300 m1 := (k132 46 (by decide)).trans h105
                        have h222 : f128 59 = iz E 8 nr1 := (k132 59 (by decide)).trans h102
                        have h223 : f128 60 = iz E 1024 sm1 := (k132 60 (by decide)).trans h103
                        have h224 : f128 58 = ob 0 [.ref (eA E 59), .ref (eA E 60), .int (zI N), .int (zI S), .int (zI T1)] := (k132 58 (by decide)).trans h101
                        have h225 : f128 7 = iz E 700 g := (k132 7 (by decide)).trans h125
                        have h226 : f128 2 = ob 6 [.ref (eA E 3), .int (zI oc)] := (k132 2 (by decide)).trans h126
                        have h227 : f128 3 = iz E 300 old := (k132 3 (by decide)).trans h127
                        have hhb := hrR_b (nr := nr1) (sm := sm1) (N := N) (S := S) (mode := t (1024 + ((256 * h) + (g pc)))) (here := kS K + c1 - kT K) (g := g) (pa := pa1) (e := kA K) hB (by omega)
                        refine F_callV hX (st := []) (c_Wr_makeCopyR E f128 K g old m1 nr1 sm1 pa1 c1 oc ((szR g (kC K) (t (512 + ((256 * h) + (g pc)))) pc1).1) (t (1024 + ((256 * h) + (g pc)))) N S T1 h217 h225 hB ⟨h220, h221⟩ hm1 (by omega) h219 (by omega) ⟨h224, h222, h223⟩ (by omega) hsm1 hnr1 ⟨h226, h227⟩ hoB hso (by omega) (by omega)) cm_Wr_makeCopy im_Wr_makeCopy se_Wr_makeCopy rfl ml_Wr_120 d_Wr_make_149 (by decide) h217 rfl rfl (Nat.le_of_ble_eq_true rfl) (by decide) ?_
                        rintro _ f228 (⟨hok, rfl, ⟨h9a, h9b⟩, h9c, ⟨h9d, h9e, h9f⟩, k9⟩ | ⟨hok, rfl, h9c, ⟨h9d, h9e, h9f⟩, k9⟩)
                        · skip
                          have hok1 := hok.1
                          have hok2 := hok.2
                          have hrt := rmT_b (N := N) (T := T1) (by omega) (by omega)
                          refine G_cast (st' := [.int (zI 1)]) ?_ rfl rfl rfl rfl
                          refine G_if_ne_z hX (tgt := 158) d_Wr_make_152 rfl (by omega) (fun c233 => ?_) (fun c234 => by exfalso; omega)
                          refine G_iinc_z hX (lv' := [(6, .int (zI (h + 1))), (9, .int (zI ((szR g (kC K) (t (512 + ((256 * h) + (g pc)))) pc1).1))), (8, .int (zI (t ((256 * h) + (g pc))))), (7, .int (zI ((256 * h) + (g pc)))), (0, .ref (eA E 53)), (1, .ref (eA E 49)), (4, .int (zI i)), (5, .int (zI (g pc)))]) 7 rfl (by decide) rfl d_Wr_make_158 ?_
                          refine G_goto hX (tgt := 42) d_Wr_make_161 rfl ?_
                          have h235 : f228 55 = ob 1 [.ref (eA E 7), .int (zI pd1), .int (zI (kD K))] := (k9 55 (by decide)).trans h218
                          have h236 : f228 56 = ob 1 [.ref (eA E 7), .int (zI ((szR g (kC K) (t (512 + ((256 * h) + (g pc)))) pc1).2)), .int (zI (kC K))] := (k9 56 (by decide)).trans h131
                          have e7 : inS K g t old N S (256 * h + g pc) pd1 pc1 pa1 c1 m1 nr1 sm1 T1 = some (pd1, (szR g (kC K) (t (512 + ((256 * h) + (g pc)))) pc1).2, (hrR nr1 sm1 N S (t (1024 + ((256 * h) + (g pc)))) (kS K + c1 - kT K) g pa1 (kA K)).2, c1 + (szR g (kC K) (t (512 + ((256 * h) + (g pc)))) pc1).1, cpL K old ((szR g (kC K) (t (512 + ((256 * h) + (g pc)))) pc1).1).toNat (hrR nr1 sm1 N S (t (1024 + ((256 * h) + (g pc)))) (kS K + c1 - kT K) g pa1 (kA K)).1 m1 c1, rmN nr1 N T1 (hrR nr1 sm1 N S (t (1024 + ((256 * h) + (g pc)))) (kS K + c1 - kT K) g pa1 (kA K)).1, rmS sm1 S (hrR nr1 sm1 N S (t (1024 + ((256 * h) + (g pc)))) (kS K + c1 - kT K) g pa1 (kA K)).1, rmT N T1) := by unfold inS; rw [if_neg (by omega), if_neg (by omega), if_neg (by omega), if_neg (by omega), if_pos hok]
                          refine G_loc (lv' := [(0, .ref (eA E 53)), (1, .ref (eA E 49)), (4, .int (zI i)), (5, .int (zI (g pc))), (6, .int (zI (h + 1)))]) [4, 5, 6, 7, 0] rfl ?_
                          exact ih97 (h + 1) pd1 ((szR g (kC K) (t (512 + ((256 * h) + (g pc)))) pc1).2) ((hrR nr1 sm1 N S (t (1024 + ((256 * h) + (g pc)))) (kS K + c1 - kT K) g pa1 (kA K)).2) (c1 + (szR g (kC K) (t (512 + ((256 * h) + (g pc)))) pc1).1) (cpL K old ((szR g (kC K) (t (512 + ((256 * h) + (g pc)))) pc1).1).toNat (hrR nr1 sm1 N S (t (1024 + ((256 * h) + (g pc)))) (kS K + c1 - kT K) g pa1 (kA K)).1 m1 c1) (rmN nr1 N T1 (hrR nr1 sm1 N S (t (1024 + ((256 * h) + (g pc)))) (kS K + c1 - kT K) g pa1 (kA K)).1) (rmS sm1 S (hrR nr1 sm1 N S (t (1024 + ((256 * h) + (g pc)))) (kS K + c1 - kT K) g pa1 (kA K)).1) (rmT N T1) f228 (by omega) (by omega) (by omega) (isB_cp hoB _ _ _ _ hm1) (rmN_b hnr1 (by omega)) (rmS_b hsm1 (by omega)) (hs1.trans (hcS_s (by omega) e7)) h235 h236 h9c h9d h9e h9f h9a h9b (Fr.tr (Fr.tr (Fr.tr Fr.rf k95 (by decide)) k132 (by decide)) k9 (by decide))
                        · skip
                          refine G_cast (st' := [.int (zI 0)]) ?_ rfl rfl rfl rfl
                          have e7 : inS K g t old N S (256 * h + g pc) pd1 pc1 pa1 c1 m1 nr1 sm1 T1 = none := by unfold inS; rw [if_neg ht0, if_neg (by omega), if_neg (by omega), if_neg (by omega), if_neg hok]
                          have e9 : mkF K g t old N S m0 = none := hs1.trans (hcS_n (by omega) e7)
                          refine G_if_ne_z hX (tgt := 158) d_Wr_make_152 rfl (by omega) (fun c237 => by exfalso; omega) (fun c238 => ?_)
                          refine G_bipush hX (by decide) d_Wr_make_155 ?_
                          have e8 : mkE K (mkF K g t old N S m0) = -2 := by rw [e9]; rfl
                          rw [e8] at hE
                          have h239 : f228 46 = iz E 300 m1 := (k9 46 (by decide)).trans h221
                          have h240 : f228 45 = ob 6 [.ref (eA E 46), .int (zI c1)] := (k9 45 (by decide)).trans h220
                          have h241 : f228 55 = ob 1 [.ref (eA E 7), .int (zI pd1), .int (zI (kD K))] := (k9 55 (by decide)).trans h218
                          have h242 : f228 56 = ob 1 [.ref (eA E 7), .int (zI ((szR g (kC K) (t (512 + ((256 * h) + (g pc)))) pc1).2)), .int (zI (kC K))] := (k9 56 (by decide)).trans h131
                          exact F_iret hX hE d_Wr_make_157 ⟨rfl, ⟨_, _, ⟨h240, h239⟩, hm1, by omega, fun h9 => absurd h9 (by decide)⟩, ⟨_, _, h241⟩, ⟨_, _, h242⟩, ⟨_, _, h9c⟩, ⟨_, _, _, _, _, ⟨h9d, h9e, h9f⟩⟩, (Fr.tr (Fr.tr (Fr.tr (Fr.tr (Fr.tr (Fr.tr (Fr.tr (Fr.tr Fr.rf k7 (by decide)) k10 (by decide)) k14 (by decide)) k17 (by decide)) k92 (by decide)) k95 (by decide)) k132 (by decide)) k9 (by decide))⟩
                  · skip
                    obtain ⟨z243, hz243⟩ : ∃ z, (if (szR g (kC K) (t (512 + ((256 * h) + (g pc)))) pc1).1 ≤ kT K + kZ K - c1 then (szR g (kC K) (t (512 + ((256 * h) + (g pc)))) pc1).1 else -1) = z := ⟨_, rfl⟩
                    have hz243n : z243 < 0 := by rw [← hz243]; split <;> omega
                    refine G_top (show zI (if (szR g (kC K) (t (512 + ((256 * h) + (g pc)))) pc1).1 ≤ kT K + kZ K - c1 then (szR g (kC K) (t (512 + ((256 * h) + (g pc)))) pc1).1 else -1) = zI z243 from by rw [hz243]) ?_
                    have e7 : inS K g t old N S (256 * h + g pc) pd1 pc1 pa1 c1 m1 nr1 sm1 T1 = none := by unfold inS; rw [if_neg ht0, if_pos (by omega)]
                    have e9 : mkF K g t old N S m0 = none := hs1.trans (hcS_n (by omega) e7)
                    refine G_istore hX (lv' := [(9, .int (zI z243)), (8, .int (zI (t ((256 * h) + (g pc))))), (7, .int (zI ((256 * h) + (g pc)))), (0, .ref (eA E 53)), (1, .ref (eA E 49)), (4, .int (zI i)), (5, .int (zI (g pc))), (6, .int (zI h))]) (by decide) rfl d_Wr_make_92 ?_
                    refine G_iload hX 0 rfl d_Wr_make_94 ?_
                    refine G_if_lt_z hX (tgt := 155) d_Wr_make_96 rfl (by omega) (fun c244 => ?_) (fun c245 => by exfalso; omega)
                    refine G_bipush hX (by decide) d_Wr_make_155 ?_
                    have e8 : mkE K (mkF K g t old N S m0) = -2 := by rw [e9]; rfl
                    rw [e8] at hE
                    have h246 : f128 46 = iz E 300 m1 := (k132 46 (by decide)).trans h105
                    have h247 : f128 45 = ob 6 [.ref (eA E 46), .int (zI c1)] := (k132 45 (by decide)).trans h104
                    have h248 : f128 55 = ob 1 [.ref (eA E 7), .int (zI pd1), .int (zI (kD K))] := (k132 55 (by decide)).trans h98
                    have h249 : f128 57 = ob 1 [.ref (eA E 7), .int (zI pa1), .int (zI (kA K))] := (k132 57 (by decide)).trans h100
                    have h250 : f128 58 = ob 0 [.ref (eA E 59), .ref (eA E 60), .int (zI N), .int (zI S), .int (zI T1)] := (k132 58 (by decide)).trans h101
                    have h251 : f128 59 = iz E 8 nr1 := (k132 59 (by decide)).trans h102
                    have h252 : f128 60 = iz E 1024 sm1 := (k132 60 (by decide)).trans h103
                    exact F_iret hX hE d_Wr_make_157 ⟨rfl, ⟨_, _, ⟨h247, h246⟩, hm1, by omega, fun h9 => absurd h9 (by decide)⟩, ⟨_, _, h248⟩, ⟨_, _, h131⟩, ⟨_, _, h249⟩, ⟨_, _, _, _, _, ⟨h250, h251, h252⟩⟩, (Fr.tr (Fr.tr (Fr.tr (Fr.tr (Fr.tr (Fr.tr (Fr.tr Fr.rf k7 (by decide)) k10 (by decide)) k14 (by decide)) k17 (by decide)) k92 (by decide)) k95 (by decide)) k132 (by decide))⟩
          have h253 : f88 55 = ob 1 [.ref (eA E 7), .int (zI pd), .int (zI (kD K))] := (k92 55 (by decide)).trans h20
          have h254 : f88 57 = ob 1 [.ref (eA E 7), .int (zI pa), .int (zI (kA K))] := (k92 57 (by decide)).trans h22
          have h255 : f88 58 = ob 0 [.ref (eA E 59), .ref (eA E 60), .int (zI N), .int (zI S), .int (zI T)] := (k92 58 (by decide)).trans h23
          have h256 : f88 59 = iz E 8 nr := (k92 59 (by decide)).trans h24
          have h257 : f88 60 = iz E 1024 sm := (k92 60 (by decide)).trans h25
          have h258 : f88 45 = ob 6 [.ref (eA E 46), .int (zI c)] := (k92 45 (by decide)).trans h26
          have h259 : f88 46 = iz E 300 m := (k92 46 (by decide)).trans h27
          refine G_loc (lv' := [(0, .ref (eA E 53)), (1, .ref (eA E 49)), (4, .int (zI i)), (5, .int (zI (g pc))), (6, .int (zI 0))]) [2, 3, 4, 1, 0] rfl ?_
          exact loop93 (_ + 1) 0 pd (pc + 1) pa c m nr sm T f88 (Nat.lt_succ_self _) (by omega) (by omega) hm hnr hsm (hs.trans (cdS_s (by omega) hlt)) h253 h9p h254 h255 h256 h257 h258 h259 Fr.rf
  have h260 : f12 55 = ob 1 [.ref (eA E 7), .int (zI (kB K)), .int (zI (kD K))] := (k14 55 (by decide)).trans ((k10 55 (by decide)).trans ((k7 55 (by decide)).trans hD))
  have h261 : f12 56 = ob 1 [.ref (eA E 7), .int (zI (kD K)), .int (zI (kC K))] := (k14 56 (by decide)).trans ((k10 56 (by decide)).trans ((k7 56 (by decide)).trans hC))
  have h262 : f12 57 = ob 1 [.ref (eA E 7), .int (zI (kC K)), .int (zI (kA K))] := (k14 57 (by decide)).trans ((k10 57 (by decide)).trans ((k7 57 (by decide)).trans hA))
  have h263 : f12 58 = ob 0 [.ref (eA E 59), .ref (eA E 60), .int (zI N), .int (zI S), .int (zI 0)] := (k14 58 (by decide)).trans ((k10 58 (by decide)).trans h4)
  have h264 : f12 59 = iz E 8 (fun _ => 0) := (k14 59 (by decide)).trans h9
  have h265 : f12 45 = ob 6 [.ref (eA E 46), .int (zI (kT K))] := (k14 45 (by decide)).trans ((k10 45 (by decide)).trans ((k7 45 (by decide)).trans hM.1))
  have h266 : f12 46 = iz E 300 m0 := (k14 46 (by decide)).trans ((k10 46 (by decide)).trans ((k7 46 (by decide)).trans hM.2))
  refine G_loc (lv' := [(0, .ref (eA E 53)), (1, .ref (eA E 49)), (4, .int (zI 0))]) [1, 2, 0] rfl ?_
  exact loop15 (_ + 1) 0 (kB K) (kD K) (kC K) (kT K) m0 (fun _ => 0) (fun _ => 0) 0 f12 (Nat.lt_succ_self _) (by omega) (by omega) hm0 (fun k => by constructor <;> omega) (fun k => by constructor <;> omega) rfl h260 h261 h262 h263 h264 h13 h265 h266 Fr.rf
theorem c_Wr_makeR47 (E : EV) (f : Nat → va_E) (K : WK) (g old m0 nr0 sm0 : Int → Int) (oc N S N0 S0 T0 : Int) (t : Int → Int) (tc : Int) (hW : isWrR E f K) (hg : f 7 = iz E 700 g) (hB : isB g) (hM : isR E f 45 46 300 m0 (kT K)) (hm0 : isB m0) (hk : 0 ≤ kT K ∧ 0 ≤ kZ K ∧ kT K + kZ K ≤ 300 ∧ 0 ≤ kB K ∧ kB K ≤ kD K ∧ kD K ≤ kC K ∧ kC K ≤ kA K ∧ kA K ≤ 700) (hkk : (kK K = 0 ∨ kK K = 1) ∧ 0 ≤ kV K ∧ kV K < 4294967296) (hD : isC E f 55 7 (kB K) (kD K)) (hC : isC E f 56 7 (kD K) (kC K)) (hA : isC E f 57 7 (kC K) (kA K)) (hR : isA E f 58 59 60 nr0 sm0 N0 S0 T0) (hO : isR E f 2 3 300 old oc) (hoB : isB old) (hso : 0 ≤ kF K ∧ 0 ≤ kS K ∧ (kO K = 2 → kF K + kS K ≤ kT K) ∧ (¬ kO K = 2 → kF K + kS K ≤ 300)) (hss : kS K ≤ 1536) (hTb : isR E f 47 48 1536 t tc) (htB : isB t) (ht3 : ∀ k, 0 ≤ k → k < 512 → t k ≤ 3) (hN : 0 ≤ N ∧ N ≤ 8 ∧ 0 ≤ S ∧ S ≤ 4) : CF yn_Wr_make cd_Wr_make 10 (some (.int)) 3 E [.ref (eA E 53), .ref (eA E 47), .int (zI N), .int (zI S)] f (fun r f' => r = some (.int (zI (mkE K (mkF K g t old N S m0)))) ∧ (∃ (m1 : Int → Int) (c1 : Int), isR E f' 45 46 300 m1 c1 ∧ isB m1 ∧ (0 ≤ c1 ∧ c1 ≤ 300) ∧ (mkE K (mkF K g t old N S m0) = 0 → m1 = mkM m0 (mkF K g t old N S m0) ∧ c1 = kT K + kZ K)) ∧ (∃ p1 e1, isC E f' 55 7 p1 e1) ∧ (∃ p1 e1, isC E f' 56 7 p1 e1) ∧ (∃ p1 e1, isC E f' 57 7 p1 e1) ∧ (∃ nr1 sm1 N1 S1 T1, isA E f' 58 59 60 nr1 sm1 N1 S1 T1) ∧ Fr [55, 56, 57, 58, 59, 60, 45, 46] f f') := by
  refine CF.of (by decide +kernel) (Nat.le_of_ble_eq_true rfl) fun X hX hE => ?_
  have hX : Ok E X "DeltaFerry$WindowReader" "make" cd_Wr_make 10 (some (.int)) (rl 3) := hX
  refine G_cast (lv' := [(0, .ref (eA E 53)), (1, .ref (eA E 47)), (2, .int (zI N)), (3, .int (zI S))]) ?_ rfl rfl rfl rfl
  refine G_aload_n hX 0 rfl rfl d_Wr_make_0 ?_
  refine F_get hX fg_Wr_30 d_Wr_make_1 53 (by decide) hW rfl ?_
  refine G_iload_n hX 2 rfl rfl d_Wr_make_4 ?_
  refine G_iload_n hX 3 rfl rfl d_Wr_make_5 ?_
  refine F_callV hX (st := []) (c_Ad_open E f 58 59 60 nr0 sm0 N0 S0 T0 N S (by decide) (by decide) (by decide) (by decide) (by decide) (by decide) ⟨hR.1, hR.2.1, hR.2.2⟩) cm_Ad_open im_Ad_open se_Ad_open rfl ml_Wr_105 d_Wr_make_6 (by decide) hR.1 rfl rfl (Nat.le_of_ble_eq_true rfl) (by decide) ?_
  rintro _ f1 ⟨rfl, ⟨h4, h5, h6⟩, k7⟩
  refine G_cast (st' := []) ?_ rfl rfl rfl rfl
  refine F_nrmz 59 (fun _ => 0) (by decide) h5 (fun k _ h9 => by unfold kz; rw [if_pos (by omega)]) (fun f8 h9 k10 => ?_)
  have h11 : f8 60 = iz E 1024 (kz sm0 1024 0) := (k10 60 (by decide)).trans h6
  refine F_nrmz 60 (fun _ => 0) (by decide) h11 (fun k _ h9 => by unfold kz; rw [if_pos (by omega)]) (fun f12 h13 k14 => ?_)
  refine G_iconst hX d_Wr_make_9 ?_
  refine G_istore hX (lv' := [(4, .int (zI 0)), (0, .ref (eA E 53)), (1, .ref (eA E 47)), (2, .int (zI N)), (3, .int (zI S))]) (by decide) rfl d_Wr_make_10 ?_
  have loop15 : ∀ (q : Nat) (i : Int) (pd : Int) (pc : Int) (pa : Int) (c : Int) (m : Int → Int) (nr : Int → Int) (sm : Int → Int) (T : Int) (f16 : Nat → va_E), (700 - i).toNat < q → (0 ≤ i ∧ i ≤ 700) → ((0 ≤ pd ∧ pd ≤ kD K) ∧ (0 ≤ pc ∧ pc ≤ kC K) ∧ (0 ≤ pa ∧ pa ≤ kA K) ∧ (kT K ≤ c ∧ c ≤ kT K + kZ K) ∧ (0 ≤ T ∧ T < 8)) → (isB m) → (∀ k, 0 ≤ nr k ∧ nr k < 100000) → (∀ k, 0 ≤ sm k ∧ sm k < 100000) → (mkF K g t old N S m0 = cdS K g t old N S (700 - i).toNat pd pc pa c m nr sm T) → f16 55 = ob 1 [.ref (eA E 7), .int (zI pd), .int (zI (kD K))] → f16 56 = ob 1 [.ref (eA E 7), .int (zI pc), .int (zI (kC K))] → f16 57 = ob 1 [.ref (eA E 7), .int (zI pa), .int (zI (kA K))] → f16 58 = ob 0 [.ref (eA E 59), .ref (eA E 60), .int (zI N), .int (zI S), .int (zI T)] → f16 59 = iz E 8 nr → f16 60 = iz E 1024 sm → f16 45 = ob 6 [.ref (eA E 46), .int (zI c)] → f16 46 = iz E 300 m → Fr [55, 56, 57, 58, 59, 60, 45, 46] f12 f16 → G E X 0 0 12 [(0, .ref (eA E 53)), (1, .ref (eA E 47)), (4, .int (zI i))] [] (wl E f16) := by
    intro q
    induction q with
    | zero => intro i pd pc pa c m nr sm T f16 hms18; exact absurd hms18 (Nat.not_lt_zero _)
    | succ q ih19 =>
      intro i pd pc pa c m nr sm T f16 hms18 hi hb hm hnr hsm hs h20 h21 h22 h23 h24 h25 h26 h27 k17
      refine G_iload hX 2 rfl d_Wr_make_12 ?_
      refine G_sipush hX (by decide) d_Wr_make_14 ?_
      refine G_icmp_ge_z hX (tgt := 170) d_Wr_make_17 rfl (by omega) (fun c28 => ?_) (fun c29 => ?_)
      · skip
        refine G_aload_n hX 0 rfl rfl d_Wr_make_170 ?_
        have h30 : f16 53 = ob 9 [.ref (eA E 54), .ref (eA E 55), .ref (eA E 56), .ref (eA E 57), .ref (eA E 58), .ref (eA E 45), .ref (eA E (if kO K = 2 then 45 else 2)), .int (zI (kF K)), .int (zI (kS K)), .int (zI (kT K)), .int (zI (kZ K)), .int (zI (kK K)), .long (zL (kV K))] := (k17 53 (by decide)).trans ((k14 53 (by decide)).trans ((k10 53 (by decide)).trans ((k7 53 (by decide)).trans hW)))
        refine F_get hX fg_Wr_39 d_Wr_make_171 53 (by decide) h30 rfl ?_
        refine F_get hX fg_Wr_46 d_Wr_make_174 45 (by decide) h26 rfl ?_
        refine G_aload_n hX 0 rfl rfl d_Wr_make_177 ?_
        refine F_get hX fg_Wr_50 d_Wr_make_178 53 (by decide) h30 rfl ?_
        refine G_aload_n hX 0 rfl rfl d_Wr_make_181 ?_
        refine F_get hX fg_Wr_82 d_Wr_make_182 53 (by decide) h30 rfl ?_
        refine G_iadd_z hX d_Wr_make_185 ?_
        refine G_icmp_ne_z hX (tgt := 209) d_Wr_make_186 rfl (by omega) (fun c31 => ?_) (fun c32 => ?_)
        · skip
          refine G_bipush hX (by decide) d_Wr_make_209 ?_
          first
            | (exfalso; omega)
            | skip
          have e9 : mkF K g t old N S m0 = some (pd, pc, pa, c, m, nr, sm, T) := hs.trans (cdS_e (by omega))
          have e8 : mkE K (mkF K g t old N S m0) = -2 := by rw [e9, mkE_s]; rw [if_pos (by omega)]
          rw [e8] at hE
          exact F_iret hX hE d_Wr_make_211 ⟨rfl, ⟨_, _, ⟨h26, h27⟩, hm, by omega, fun h9 => absurd h9 (by decide)⟩, ⟨_, _, h20⟩, ⟨_, _, h21⟩, ⟨_, _, h22⟩, ⟨_, _, _, _, _, ⟨h23, h24, h25⟩⟩, (Fr.tr (Fr.tr (Fr.tr (Fr.tr Fr.rf k7 (by decide)) k10 (by decide)) k14 (by decide)) k17 (by decide))⟩
        · skip
          refine G_aload_n hX 0 rfl rfl d_Wr_make_189 ?_
          refine F_get hX fg_Wr_18 d_Wr_make_190 53 (by decide) h30 rfl ?_
          have h33 : f16 7 = iz E 700 g := (k17 7 (by decide)).trans ((k14 7 (by decide)).trans ((k10 7 (by decide)).trans ((k7 7 (by decide)).trans hg)))
          refine F_callV hX (st := []) (c_Cu_left E f16 55 7 700 g pd (kD K) (by decide) (by decide) (by decide) h20 h33 (by omega)) cm_Cu_left im_Cu_left se_Cu_left rfl ml_Wr_68 d_Wr_make_193 (by decide) h20 rfl rfl (Nat.le_of_ble_eq_true rfl) (by decide) ?_
          rintro _ f34 ⟨rfl, e37⟩
          obtain rfl := e37.symm
          refine G_cast (st' := [.int (zI ((kD K) - pd))]) ?_ rfl rfl rfl rfl
          refine G_if_gt_z hX (tgt := 209) d_Wr_make_196 rfl (by omega) (fun c38 => ?_) (fun c39 => ?_)
          · skip
            refine G_bipush hX (by decide) d_Wr_make_209 ?_
            first
              | (exfalso; omega)
              | skip
            have e9 : mkF K g t old N S m0 = some (pd, pc, pa, c, m, nr, sm, T) := hs.trans (cdS_e (by omega))
            have e8 : mkE K (mkF K g t old N S m0) = -2 := by rw [e9, mkE_s]; rw [if_pos (by omega)]
            rw [e8] at hE
            exact F_iret hX hE d_Wr_make_211 ⟨rfl, ⟨_, _, ⟨h26, h27⟩, hm, by omega, fun h9 => absurd h9 (by decide)⟩, ⟨_, _, h20⟩, ⟨_, _, h21⟩, ⟨_, _, h22⟩, ⟨_, _, _, _, _, ⟨h23, h24, h25⟩⟩, (Fr.tr (Fr.tr (Fr.tr (Fr.tr Fr.rf k7 (by decide)) k10 (by decide)) k14 (by decide)) k17 (by decide))⟩
          · skip
            refine G_aload_n hX 0 rfl rfl d_Wr_make_199 ?_
            refine F_get hX fg_Wr_24 d_Wr_make_200 53 (by decide) h30 rfl ?_
            refine F_callV hX (st := []) (c_Cu_left E f16 57 7 700 g pa (kA K) (by decide) (by decide) (by decide) h22 h33 (by omega)) cm_Cu_left im_Cu_left se_Cu_left rfl ml_Wr_68 d_Wr_make_203 (by decide) h22 rfl rfl (Nat.le_of_ble_eq_true rfl) (by decide) ?_
            rintro _ f40 ⟨rfl, e43⟩
            obtain rfl := e43.symm
            refine G_cast (st' := [.int (zI ((kA K) - pa))]) ?_ rfl rfl rfl rfl
            refine G_if_le_z hX (tgt := 212) d_Wr_make_206 rfl (by omega) (fun c44 => ?_) (fun c45 => ?_)
            · skip
              refine G_aload_n hX 0 rfl rfl d_Wr_make_212 ?_
              refine F_get hX fg_Wr_61 d_Wr_make_213 53 (by decide) h30 rfl ?_
              refine G_if_eq_z hX (tgt := 250) d_Wr_make_216 rfl (by omega) (fun c46 => ?_) (fun c47 => ?_)
              · skip
                refine G_iconst hX d_Wr_make_250 ?_
                first
                  | (exfalso; omega)
                  | skip
                have e9 : mkF K g t old N S m0 = some (pd, pc, pa, c, m, nr, sm, T) := hs.trans (cdS_e (by omega))
                have e8 : mkE K (mkF K g t old N S m0) = 0 := by rw [e9, mkE_s]; rw [if_neg (by omega), if_neg (fun hq => by first | exact absurd hq.1 (by omega) | exact hq.2 heq)]
                rw [e8] at hE
                exact F_iret hX hE d_Wr_make_251 ⟨rfl, ⟨_, _, ⟨h26, h27⟩, hm, by omega, fun _ => ⟨by rw [e9]; rfl, by omega⟩⟩, ⟨_, _, h20⟩, ⟨_, _, h21⟩, ⟨_, _, h22⟩, ⟨_, _, _, _, _, ⟨h23, h24, h25⟩⟩, (Fr.tr (Fr.tr (Fr.tr (Fr.tr Fr.rf k7 (by decide)) k10 (by decide)) k14 (by decide)) k17 (by decide))⟩
              · skip
                refine G_aload_n hX 0 rfl rfl d_Wr_make_219 ?_
                refine F_get hX fg_Wr_39 d_Wr_make_220 53 (by decide) h30 rfl ?_
                refine F_get hX fg_Wr_108 d_Wr_make_223 45 (by decide) h26 rfl ?_
                refine G_aload_n hX 0 rfl rfl d_Wr_make_226 ?_
                refine F_get hX fg_Wr_50 d_Wr_make_227 53 (by decide) h30 rfl ?_
                refine G_aload_n hX 0 rfl rfl d_Wr_make_230 ?_
                refine F_get hX fg_Wr_82 d_Wr_make_231 53 (by decide) h30 rfl ?_
                refine F_callSN hX (st := []) (host := "DeltaFerry") (c_Df_checkOf E f16 46 300 m (kT K) (kZ K) (by decide) h27 hm (by omega)) cm_Df_checkOf sm_Df_checkOf (by decide +kernel) d_Wr_make_234 rfl rfl (Nat.le_of_ble_eq_true rfl) (by decide) ?_
                rintro _ f48 ⟨rfl, e51⟩
                obtain rfl := e51.symm
                refine G_cast (st' := [.long (zL (adV m (kT K) (kZ K)))]) ?_ rfl rfl rfl rfl
                refine G_aload_n hX 0 rfl rfl d_Wr_make_237 ?_
                refine F_get hX fg_Wr_96 d_Wr_make_238 53 (by decide) h30 rfl ?_
                refine G_lcmp hX d_Wr_make_241 ?_
                have had := adS_b m (kT K) (kZ K).toNat
                have had2 : 0 ≤ adV m (kT K) (kZ K) ∧ adV m (kT K) (kZ K) < 4294967296 := by unfold adV; omega
                by_cases heq : adV m (kT K) (kZ K) = kV K
                · skip
                  refine G_top (show (lg_cmp (zL (adV m (kT K) (kZ K))) (zL (kV K))) = zI 0 from by rw [heq]; exact (lg_cmp_eq _ _).mpr rfl) ?_
                  refine G_if_eq_z hX (tgt := 250) d_Wr_make_242 rfl (by omega) (fun c52 => ?_) (fun c53 => by exfalso; omega)
                  refine G_iconst hX d_Wr_make_250 ?_
                  first
                    | (exfalso; omega)
                    | skip
                  have e9 : mkF K g t old N S m0 = some (pd, pc, pa, c, m, nr, sm, T) := hs.trans (cdS_e (by omega))
                  have e8 : mkE K (mkF K g t old N S m0) = 0 := by rw [e9, mkE_s]; rw [if_neg (by omega), if_neg (fun hq => by first | exact absurd hq.1 (by omega) | exact hq.2 heq)]
                  rw [e8] at hE
                  exact F_iret hX hE d_Wr_make_251 ⟨rfl, ⟨_, _, ⟨h26, h27⟩, hm, by omega, fun _ => ⟨by rw [e9]; rfl, by omega⟩⟩, ⟨_, _, h20⟩, ⟨_, _, h21⟩, ⟨_, _, h22⟩, ⟨_, _, _, _, _, ⟨h23, h24, h25⟩⟩, (Fr.tr (Fr.tr (Fr.tr (Fr.tr Fr.rf k7 (by decide)) k10 (by decide)) k14 (by decide)) k17 (by decide))⟩
                · skip
                  have hne : adV m (kT K) (kZ K) ≠ kV K := heq
                  refine G_if_eq hX (tgt := 250) d_Wr_make_242 rfl (fun c54 => by exact absurd ((zL_eq (by omega)).mp ((lg_cmp_eq _ _).mp ‹lg_cmp _ _ = 0›)) heq) (fun c55 => ?_)
                  refine G_bipush hX (by decide) d_Wr_make_245 ?_
                  refine G_goto hX (tgt := 251) d_Wr_make_247 rfl ?_
                  first
                    | (exfalso; omega)
                    | skip
                  have e9 : mkF K g t old N S m0 = some (pd, pc, pa, c, m, nr, sm, T) := hs.trans (cdS_e (by omega))
                  have e8 : mkE K (mkF K g t old N S m0) = -6 := by rw [e9, mkE_s]; rw [if_neg (by omega), if_pos ⟨by omega, hne⟩]
                  rw [e8] at hE
                  exact F_iret hX hE d_Wr_make_251 ⟨rfl, ⟨_, _, ⟨h26, h27⟩, hm, by omega, fun h9 => absurd h9 (by decide)⟩, ⟨_, _, h20⟩, ⟨_, _, h21⟩, ⟨_, _, h22⟩, ⟨_, _, _, _, _, ⟨h23, h24, h25⟩⟩, (Fr.tr (Fr.tr (Fr.tr (Fr.tr Fr.rf k7 (by decide)) k10 (by decide)) k14 (by decide)) k17 (by decide))⟩
            · skip
              refine G_bipush hX (by decide) d_Wr_make_209 ?_
              first
                | (exfalso; omega)
                | skip
              have e9 : mkF K g t old N S m0 = some (pd, pc, pa, c, m, nr, sm, T) := hs.trans (cdS_e (by omega))
              have e8 : mkE K (mkF K g t old N S m0) = -2 := by rw [e9, mkE_s]; rw [if_pos (by omega)]
              rw [e8] at hE
              exact F_iret hX hE d_Wr_make_211 ⟨rfl, ⟨_, _, ⟨h26, h27⟩, hm, by omega, fun h9 => absurd h9 (by decide)⟩, ⟨_, _, h20⟩, ⟨_, _, h21⟩, ⟨_, _, h22⟩, ⟨_, _, _, _, _, ⟨h23, h24, h25⟩⟩, (Fr.tr (Fr.tr (Fr.tr (Fr.tr Fr.rf k7 (by decide)) k10 (by decide)) k14 (by decide)) k17 (by decide))⟩
      · skip
        refine G_aload_n hX 0 rfl rfl d_Wr_make_20 ?_
        have h56 : f16 53 = ob 9 [.ref (eA E 54), .ref (eA E 55), .ref (eA E 56), .ref (eA E 57), .ref (eA E 58), .ref (eA E 45), .ref (eA E (if kO K = 2 then 45 else 2)), .int (zI (kF K)), .int (zI (kS K)), .int (zI (kT K)), .int (zI (kZ K)), .int (zI (kK K)), .long (zL (kV K))] := (k17 53 (by decide)).trans ((k14 53 (by decide)).trans ((k10 53 (by decide)).trans ((k7 53 (by decide)).trans hW)))
        refine F_get hX fg_Wr_21 d_Wr_make_21 53 (by decide) h56 rfl ?_
        have h57 : f16 7 = iz E 700 g := (k17 7 (by decide)).trans ((k14 7 (by decide)).trans ((k10 7 (by decide)).trans ((k7 7 (by decide)).trans hg)))
        refine F_callV hX (st := []) (c_Cu_left E f16 56 7 700 g pc (kC K) (by decide) (by decide) (by decide) h21 h57 (by omega)) cm_Cu_left im_Cu_left se_Cu_left rfl ml_Wr_68 d_Wr_make_24 (by decide) h21 rfl rfl (Nat.le_of_ble_eq_true rfl) (by decide) ?_
        rintro _ f58 ⟨rfl, e61⟩
        obtain rfl := e61.symm
        refine G_cast (st' := [.int (zI ((kC K) - pc))]) ?_ rfl rfl rfl rfl
        refine G_if_le_z hX (tgt := 170) d_Wr_make_27 rfl (by omega) (fun c62 => ?_) (fun c63 => ?_)
        · skip
          refine G_aload_n hX 0 rfl rfl d_Wr_make_170 ?_
          refine F_get hX fg_Wr_39 d_Wr_make_171 53 (by decide) h56 rfl ?_
          refine F_get hX fg_Wr_46 d_Wr_make_174 45 (by decide) h26 rfl ?_
          refine G_aload_n hX 0 rfl rfl d_Wr_make_177 ?_
          refine F_get hX fg_Wr_50 d_Wr_make_178 53 (by decide) h56 rfl ?_
          refine G_aload_n hX 0 rfl rfl d_Wr_make_181 ?_
          refine F_get hX fg_Wr_82 d_Wr_make_182 53 (by decide) h56 rfl ?_
          refine G_iadd_z hX d_Wr_make_185 ?_
          refine G_icmp_ne_z hX (tgt := 209) d_Wr_make_186 rfl (by omega) (fun c64 => ?_) (fun c65 => ?_)
          · skip
            refine G_bipush hX (by decide) d_Wr_make_209 ?_
            first
              | (exfalso; omega)
              | skip
            have e9 : mkF K g t old N S m0 = some (pd, pc, pa, c, m, nr, sm, T) := hs.trans (cdS_e (by omega))
            have e8 : mkE K (mkF K g t old N S m0) = -2 := by rw [e9, mkE_s]; rw [if_pos (by omega)]
            rw [e8] at hE
            exact F_iret hX hE d_Wr_make_211 ⟨rfl, ⟨_, _, ⟨h26, h27⟩, hm, by omega, fun h9 => absurd h9 (by decide)⟩, ⟨_, _, h20⟩, ⟨_, _, h21⟩, ⟨_, _, h22⟩, ⟨_, _, _, _, _, ⟨h23, h24, h25⟩⟩, (Fr.tr (Fr.tr (Fr.tr (Fr.tr Fr.rf k7 (by decide)) k10 (by decide)) k14 (by decide)) k17 (by decide))⟩
          · skip
            refine G_aload_n hX 0 rfl rfl d_Wr_make_189 ?_
            refine F_get hX fg_Wr_18 d_Wr_make_190 53 (by decide) h56 rfl ?_
            refine F_callV hX (st := []) (c_Cu_left E f16 55 7 700 g pd (kD K) (by decide) (by decide) (by decide) h20 h57 (by omega)) cm_Cu_left im_Cu_left se_Cu_left rfl ml_Wr_68 d_Wr_make_193 (by decide) h20 rfl rfl (Nat.le_of_ble_eq_true rfl) (by decide) ?_
            rintro _ f66 ⟨rfl, e69⟩
            obtain rfl := e69.symm
            refine G_cast (st' := [.int (zI ((kD K) - pd))]) ?_ rfl rfl rfl rfl
            refine G_if_gt_z hX (tgt := 209) d_Wr_make_196 rfl (by omega) (fun c70 => ?_) (fun c71 => ?_)
            · skip
              refine G_bipush hX (by decide) d_Wr_make_209 ?_
              first
                | (exfalso; omega)
                | skip
              have e9 : mkF K g t old N S m0 = some (pd, pc, pa, c, m, nr, sm, T) := hs.trans (cdS_e (by omega))
              have e8 : mkE K (mkF K g t old N S m0) = -2 := by rw [e9, mkE_s]; rw [if_pos (by omega)]
              rw [e8] at hE
              exact F_iret hX hE d_Wr_make_211 ⟨rfl, ⟨_, _, ⟨h26, h27⟩, hm, by omega, fun h9 => absurd h9 (by decide)⟩, ⟨_, _, h20⟩, ⟨_, _, h21⟩, ⟨_, _, h22⟩, ⟨_, _, _, _, _, ⟨h23, h24, h25⟩⟩, (Fr.tr (Fr.tr (Fr.tr (Fr.tr Fr.rf k7 (by decide)) k10 (by decide)) k14 (by decide)) k17 (by decide))⟩
            · skip
              refine G_aload_n hX 0 rfl rfl d_Wr_make_199 ?_
              refine F_get hX fg_Wr_24 d_Wr_make_200 53 (by decide) h56 rfl ?_
              refine F_callV hX (st := []) (c_Cu_left E f16 57 7 700 g pa (kA K) (by decide) (by decide) (by decide) h22 h57 (by omega)) cm_Cu_left im_Cu_left se_Cu_left rfl ml_Wr_68 d_Wr_make_203 (by decide) h22 rfl rfl (Nat.le_of_ble_eq_true rfl) (by decide) ?_
              rintro _ f72 ⟨rfl, e75⟩
              obtain rfl := e75.symm
              refine G_cast (st' := [.int (zI ((kA K) - pa))]) ?_ rfl rfl rfl rfl
              refine G_if_le_z hX (tgt := 212) d_Wr_make_206 rfl (by omega) (fun c76 => ?_) (fun c77 => ?_)
              · skip
                refine G_aload_n hX 0 rfl rfl d_Wr_make_212 ?_
                refine F_get hX fg_Wr_61 d_Wr_make_213 53 (by decide) h56 rfl ?_
                refine G_if_eq_z hX (tgt := 250) d_Wr_make_216 rfl (by omega) (fun c78 => ?_) (fun c79 => ?_)
                · skip
                  refine G_iconst hX d_Wr_make_250 ?_
                  first
                    | (exfalso; omega)
                    | skip
                  have e9 : mkF K g t old N S m0 = some (pd, pc, pa, c, m, nr, sm, T) := hs.trans (cdS_e (by omega))
                  have e8 : mkE K (mkF K g t old N S m0) = 0 := by rw [e9, mkE_s]; rw [if_neg (by omega), if_neg (fun hq => by first | exact absurd hq.1 (by omega) | exact hq.2 heq)]
                  rw [e8] at hE
                  exact F_iret hX hE d_Wr_make_251 ⟨rfl, ⟨_, _, ⟨h26, h27⟩, hm, by omega, fun _ => ⟨by rw [e9]; rfl, by omega⟩⟩, ⟨_, _, h20⟩, ⟨_, _, h21⟩, ⟨_, _, h22⟩, ⟨_, _, _, _, _, ⟨h23, h24, h25⟩⟩, (Fr.tr (Fr.tr (Fr.tr (Fr.tr Fr.rf k7 (by decide)) k10 (by decide)) k14 (by decide)) k17 (by decide))⟩
                · skip
                  refine G_aload_n hX 0 rfl rfl d_Wr_make_219 ?_
                  refine F_get hX fg_Wr_39 d_Wr_make_220 53 (by decide) h56 rfl ?_
                  refine F_get hX fg_Wr_108 d_Wr_make_223 45 (by decide) h26 rfl ?_
                  refine G_aload_n hX 0 rfl rfl d_Wr_make_226 ?_
                  refine F_get hX fg_Wr_50 d_Wr_make_227 53 (by decide) h56 rfl ?_
                  refine G_aload_n hX 0 rfl rfl d_Wr_make_230 ?_
                  refine F_get hX fg_Wr_82 d_Wr_make_231 53 (by decide) h56 rfl ?_
                  refine F_callSN hX (st := []) (host := "DeltaFerry") (c_Df_checkOf E f16 46 300 m (kT K) (kZ K) (by decide) h27 hm (by omega)) cm_Df_checkOf sm_Df_checkOf (by decide +kernel) d_Wr_make_234 rfl rfl (Nat.le_of_ble_eq_true rfl) (by decide) ?_
                  rintro _ f80 ⟨rfl, e83⟩
                  obtain rfl := e83.symm
                  refine G_cast (st' := [.long (zL (adV m (kT K) (kZ K)))]) ?_ rfl rfl rfl rfl
                  refine G_aload_n hX 0 rfl rfl d_Wr_make_237 ?_
                  refine F_get hX fg_Wr_96 d_Wr_make_238 53 (by decide) h56 rfl ?_
                  refine G_lcmp hX d_Wr_make_241 ?_
                  have had := adS_b m (kT K) (kZ K).toNat
                  have had2 : 0 ≤ adV m (kT K) (kZ K) ∧ adV m (kT K) (kZ K) < 4294967296 := by unfold adV; omega
                  by_cases heq : adV m (kT K) (kZ K) = kV K
                  · skip
                    refine G_top (show (lg_cmp (zL (adV m (kT K) (kZ K))) (zL (kV K))) = zI 0 from by rw [heq]; exact (lg_cmp_eq _ _).mpr rfl) ?_
                    refine G_if_eq_z hX (tgt := 250) d_Wr_make_242 rfl (by omega) (fun c84 => ?_) (fun c85 => by exfalso; omega)
                    refine G_iconst hX d_Wr_make_250 ?_
                    first
                      | (exfalso; omega)
                      | skip
                    have e9 : mkF K g t old N S m0 = some (pd, pc, pa, c, m, nr, sm, T) := hs.trans (cdS_e (by omega))
                    have e8 : mkE K (mkF K g t old N S m0) = 0 := by rw [e9, mkE_s]; rw [if_neg (by omega), if_neg (fun hq => by first | exact absurd hq.1 (by omega) | exact hq.2 heq)]
                    rw [e8] at hE
                    exact F_iret hX hE d_Wr_make_251 ⟨rfl, ⟨_, _, ⟨h26, h27⟩, hm, by omega, fun _ => ⟨by rw [e9]; rfl, by omega⟩⟩, ⟨_, _, h20⟩, ⟨_, _, h21⟩, ⟨_, _, h22⟩, ⟨_, _, _, _, _, ⟨h23, h24, h25⟩⟩, (Fr.tr (Fr.tr (Fr.tr (Fr.tr Fr.rf k7 (by decide)) k10 (by decide)) k14 (by decide)) k17 (by decide))⟩
                  · skip
                    have hne : adV m (kT K) (kZ K) ≠ kV K := heq
                    refine G_if_eq hX (tgt := 250) d_Wr_make_242 rfl (fun c86 => by exact absurd ((zL_eq (by omega)).mp ((lg_cmp_eq _ _).mp ‹lg_cmp _ _ = 0›)) heq) (fun c87 => ?_)
                    refine G_bipush hX (by decide) d_Wr_make_245 ?_
                    refine G_goto hX (tgt := 251) d_Wr_make_247 rfl ?_
                    first
                      | (exfalso; omega)
                      | skip
                    have e9 : mkF K g t old N S m0 = some (pd, pc, pa, c, m, nr, sm, T) := hs.trans (cdS_e (by omega))
                    have e8 : mkE K (mkF K g t old N S m0) = -6 := by rw [e9, mkE_s]; rw [if_neg (by omega), if_pos ⟨by omega, hne⟩]
                    rw [e8] at hE
                    exact F_iret hX hE d_Wr_make_251 ⟨rfl, ⟨_, _, ⟨h26, h27⟩, hm, by omega, fun h9 => absurd h9 (by decide)⟩, ⟨_, _, h20⟩, ⟨_, _, h21⟩, ⟨_, _, h22⟩, ⟨_, _, _, _, _, ⟨h23, h24, h25⟩⟩, (Fr.tr (Fr.tr (Fr.tr (Fr.tr Fr.rf k7 (by decide)) k10 (by decide)) k14 (by decide)) k17 (by decide))⟩
              · skip
                refine G_bipush hX (by decide) d_Wr_make_209 ?_
                first
                  | (exfalso; omega)
                  | skip
                have e9 : mkF K g t old N S m0 = some (pd, pc, pa, c, m, nr, sm, T) := hs.trans (cdS_e (by omega))
                have e8 : mkE K (mkF K g t old N S m0) = -2 := by rw [e9, mkE_s]; rw [if_pos (by omega)]
                rw [e8] at hE
                exact F_iret hX hE d_Wr_make_211 ⟨rfl, ⟨_, _, ⟨h26, h27⟩, hm, by omega, fun h9 => absurd h9 (by decide)⟩, ⟨_, _, h20⟩, ⟨_, _, h21⟩, ⟨_, _, h22⟩, ⟨_, _, _, _, _, ⟨h23, h24, h25⟩⟩, (Fr.tr (Fr.tr (Fr.tr (Fr.tr Fr.rf k7 (by decide)) k10 (by decide)) k14 (by decide)) k17 (by decide))⟩
        · skip
          refine G_aload_n hX 0 rfl rfl d_Wr_make_30 ?_
          refine F_get hX fg_Wr_21 d_Wr_make_31 53 (by decide) h56 rfl ?_
          refine F_callV hX (st := []) (c_Cu_next E f16 56 7 700 g pc (kC K) (by decide) (by decide) (by decide) h21 h57 (by omega)) cm_Cu_next im_Cu_next se_Cu_next rfl ml_Wr_53 d_Wr_make_34 (by decide) h21 rfl rfl (Nat.le_of_ble_eq_true rfl) (by decide) ?_
          rintro _ f88 ⟨rfl, h91, k92⟩
          refine G_cast (st' := [.int (zI (nxV g pc (kC K)))]) ?_ rfl rfl rfl rfl
          have hlt : pc < kC K := by omega
          have h9p : isC E f88 56 7 (pc + 1) (kC K) := by have := h91; rw [nxP_lt hlt] at this; exact this
          refine G_top (show zI (nxV g pc (kC K)) = zI (g pc) from by rw [nxV_lt hlt]) ?_
          have hgp := hB pc
          refine G_istore hX (lv' := [(5, .int (zI (g pc))), (0, .ref (eA E 53)), (1, .ref (eA E 47)), (4, .int (zI i))]) (by decide) rfl d_Wr_make_37 ?_
          refine G_iconst hX d_Wr_make_39 ?_
          refine G_istore hX (lv' := [(6, .int (zI 0)), (5, .int (zI (g pc))), (0, .ref (eA E 53)), (1, .ref (eA E 47)), (4, .int (zI i))]) (by decide) rfl d_Wr_make_40 ?_
          have loop93 : ∀ (q : Nat) (h : Int) (pd1 : Int) (pc1 : Int) (pa1 : Int) (c1 : Int) (m1 : Int → Int) (nr1 : Int → Int) (sm1 : Int → Int) (T1 : Int) (f94 : Nat → va_E), (2 - h).toNat < q → (0 ≤ h ∧ h ≤ 2) → ((0 ≤ pd1 ∧ pd1 ≤ kD K) ∧ (0 ≤ pc1 ∧ pc1 ≤ kC K) ∧ (0 ≤ pa1 ∧ pa1 ≤ kA K) ∧ (kT K ≤ c1 ∧ c1 ≤ kT K + kZ K) ∧ (0 ≤ T1 ∧ T1 < 8)) → (isB m1) → (∀ k, 0 ≤ nr1 k ∧ nr1 k < 100000) → (∀ k, 0 ≤ sm1 k ∧ sm1 k < 100000) → (mkF K g t old N S m0 = hcS K g t old N S (g pc) (700 - (i + 1)).toNat (2 - h).toNat h pd1 pc1 pa1 c1 m1 nr1 sm1 T1) → f94 55 = ob 1 [.ref (eA E 7), .int (zI pd1), .int (zI (kD K))] → f94 56 = ob 1 [.ref (eA E 7), .int (zI pc1), .int (zI (kC K))] → f94 57 = ob 1 [.ref (eA E 7), .int (zI pa1), .int (zI (kA K))] → f94 58 = ob 0 [.ref (eA E 59), .ref (eA E 60), .int (zI N), .int (zI S), .int (zI T1)] → f94 59 = iz E 8 nr1 → f94 60 = iz E 1024 sm1 → f94 45 = ob 6 [.ref (eA E 46), .int (zI c1)] → f94 46 = iz E 300 m1 → Fr [55, 56, 57, 58, 59, 60, 45, 46] f88 f94 → G E X 0 0 42 [(0, .ref (eA E 53)), (1, .ref (eA E 47)), (4, .int (zI i)), (5, .int (zI (g pc))), (6, .int (zI h))] [] (wl E f94) := by
            intro q
            induction q with
            | zero => intro h pd1 pc1 pa1 c1 m1 nr1 sm1 T1 f94 hms96; exact absurd hms96 (Nat.not_lt_zero _)
            | succ q ih97 =>
              intro h pd1 pc1 pa1 c1 m1 nr1 sm1 T1 f94 hms96 hh hb1 hm1 hnr1 hsm1 hs1 h98 h99 h100 h101 h102 h103 h104 h105 k95
              have hgp2 := hB pc
              refine G_iload hX 4 rfl d_Wr_make_42 ?_
              refine G_iconst hX d_Wr_make_44 ?_
              refine G_icmp_ge_z hX (tgt := 164) d_Wr_make_45 rfl (by omega) (fun c106 => ?_) (fun c107 => ?_)
              · skip
                refine G_iinc_z hX (lv' := [(4, .int (zI (i + 1))), (0, .ref (eA E 53)), (1, .ref (eA E 47)), (5, .int (zI (g pc))), (6, .int (zI h))]) 2 rfl (by decide) rfl d_Wr_make_164 ?_
                refine G_goto hX (tgt := 12) d_Wr_make_167 rfl ?_
                refine G_loc (lv' := [(0, .ref (eA E 53)), (1, .ref (eA E 47)), (4, .int (zI (i + 1)))]) [1, 2, 0] rfl ?_
                exact ih19 (i + 1) pd1 pc1 pa1 c1 m1 nr1 sm1 T1 f94 (by omega) (by omega) (by omega) hm1 hnr1 hsm1 (hs1.trans (hcS_e (by omega))) h98 h99 h100 h101 h102 h103 h104 h105 (Fr.tr (Fr.tr (Fr.tr Fr.rf k17 (by decide)) k92 (by decide)) k95 (by decide))
              · skip
                refine G_sipush hX (by decide) d_Wr_make_48 ?_
                refine G_iload hX 4 rfl d_Wr_make_51 ?_
                refine G_imul_z hX d_Wr_make_53 ?_
                refine G_iload hX 3 rfl d_Wr_make_54 ?_
                refine G_iadd_z hX d_Wr_make_56 ?_
                refine G_istore hX (lv' := [(7, .int (zI ((256 * h) + (g pc)))), (0, .ref (eA E 53)), (1, .ref (eA E 47)), (4, .int (zI i)), (5, .int (zI (g pc))), (6, .int (zI h))]) (by decide) rfl d_Wr_make_57 ?_
                refine G_aload_n hX 2 rfl rfl d_Wr_make_59 ?_
                have h108 : f94 47 = ob 6 [.ref (eA E 48), .int (zI tc)] := (k95 47 (by decide)).trans ((k92 47 (by decide)).trans ((k17 47 (by decide)).trans ((k14 47 (by decide)).trans ((k10 47 (by decide)).trans ((k7 47 (by decide)).trans hTb.1)))))
                refine F_get hX fg_Wr_108 d_Wr_make_60 47 (by decide) h108 rfl ?_
                refine G_iload hX 0 rfl d_Wr_make_63 ?_
                have h109 : f94 48 = iz E 1536 t := (k95 48 (by decide)).trans ((k92 48 (by decide)).trans ((k17 48 (by decide)).trans ((k14 48 (by decide)).trans ((k10 48 (by decide)).trans ((k7 48 (by decide)).trans hTb.2)))))
                refine F_iald hX d_Wr_make_65 48 (by decide) h109 (by omega) ?_
                have b110 := htB ((256 * h) + (g pc))
                refine G_istore hX (lv' := [(8, .int (zI (t ((256 * h) + (g pc))))), (7, .int (zI ((256 * h) + (g pc)))), (0, .ref (eA E 53)), (1, .ref (eA E 47)), (4, .int (zI i)), (5, .int (zI (g pc))), (6, .int (zI h))]) (by decide) rfl d_Wr_make_66 ?_
                refine G_iload hX 0 rfl d_Wr_make_68 ?_
                by_cases ht0 : t (256 * h + g pc) = 0
                · skip
                  refine G_if_ne_z hX (tgt := 77) d_Wr_make_70 rfl (by omega) (fun c111 => by exfalso; omega) (fun c112 => ?_)
                  refine G_iconst hX d_Wr_make_73 ?_
                  refine G_goto hX (tgt := 92) d_Wr_make_74 rfl ?_
                  refine G_istore hX (lv' := [(9, .int (zI 0)), (8, .int (zI (t ((256 * h) + (g pc))))), (7, .int (zI ((256 * h) + (g pc)))), (0, .ref (eA E 53)), (1, .ref (eA E 47)), (4, .int (zI i)), (5, .int (zI (g pc))), (6, .int (zI h))]) (by decide) rfl d_Wr_make_92 ?_
                  refine G_iload hX 0 rfl d_Wr_make_94 ?_
                  refine G_if_lt_z hX (tgt := 155) d_Wr_make_96 rfl (by omega) (fun c113 => by exfalso; omega) (fun c114 => ?_)
                  refine G_iload hX 1 rfl d_Wr_make_99 ?_
                  refine G_iconst hX d_Wr_make_101 ?_
                  refine G_icmp_ne_z hX (tgt := 114) d_Wr_make_102 rfl (by omega) (fun c115 => ?_) (fun c116 => by exfalso; omega)
                  refine G_iload hX 1 rfl d_Wr_make_114 ?_
                  refine G_iconst hX d_Wr_make_116 ?_
                  refine G_icmp_ne_z hX (tgt := 129) d_Wr_make_117 rfl (by omega) (fun c117 => ?_) (fun c118 => by exfalso; omega)
                  refine G_iload hX 1 rfl d_Wr_make_129 ?_
                  refine G_iconst hX d_Wr_make_131 ?_
                  refine G_icmp_ne_z hX (tgt := 158) d_Wr_make_132 rfl (by omega) (fun c119 => ?_) (fun c120 => by exfalso; omega)
                  refine G_iinc_z hX (lv' := [(6, .int (zI (h + 1))), (9, .int (zI 0)), (8, .int (zI (t ((256 * h) + (g pc))))), (7, .int (zI ((256 * h) + (g pc)))), (0, .ref (eA E 53)), (1, .ref (eA E 47)), (4, .int (zI i)), (5, .int (zI (g pc)))]) 7 rfl (by decide) rfl d_Wr_make_158 ?_
                  refine G_goto hX (tgt := 42) d_Wr_make_161 rfl ?_
                  have e7 : inS K g t old N S (256 * h + g pc) pd1 pc1 pa1 c1 m1 nr1 sm1 T1 = some (pd1, pc1, pa1, c1, m1, nr1, sm1, T1) := by unfold inS; rw [if_pos (by omega)]
                  refine G_loc (lv' := [(0, .ref (eA E 53)), (1, .ref (eA E 47)), (4, .int (zI i)), (5, .int (zI (g pc))), (6, .int (zI (h + 1)))]) [4, 5, 6, 7, 0] rfl ?_
                  exact ih97 (h + 1) pd1 pc1 pa1 c1 m1 nr1 sm1 T1 f94 (by omega) (by omega) (by omega) hm1 hnr1 hsm1 (hs1.trans (hcS_s (by omega) e7)) h98 h99 h100 h101 h102 h103 h104 h105 (Fr.tr Fr.rf k95 (by decide))
                · skip
                  refine G_if_ne_z hX (tgt := 77) d_Wr_make_70 rfl (by omega) (fun c121 => ?_) (fun c122 => by exfalso; omega)
                  refine G_aload_n hX 2 rfl rfl d_Wr_make_77 ?_
                  refine G_aload_n hX 3 rfl rfl d_Wr_make_78 ?_
                  refine F_get hX fg_Wr_108 d_Wr_make_79 47 (by decide) h108 rfl ?_
                  refine G_sipush hX (by decide) d_Wr_make_82 ?_
                  refine G_iload hX 1 rfl d_Wr_make_85 ?_
                  refine G_iadd_z hX d_Wr_make_87 ?_
                  refine F_iald hX d_Wr_make_88 48 (by decide) h109 (by omega) ?_
                  have b123 := htB (512 + ((256 * h) + (g pc)))
                  have h124 : f94 53 = ob 9 [.ref (eA E 54), .ref (eA E 55), .ref (eA E 56), .ref (eA E 57), .ref (eA E 58), .ref (eA E 45), .ref (eA E (if kO K = 2 then 45 else 2)), .int (zI (kF K)), .int (zI (kS K)), .int (zI (kT K)), .int (zI (kZ K)), .int (zI (kK K)), .long (zL (kV K))] := (k95 53 (by decide)).trans ((k92 53 (by decide)).trans h56)
                  have h125 : f94 7 = iz E 700 g := (k95 7 (by decide)).trans ((k92 7 (by decide)).trans h57)
                  have h126 : f94 2 = ob 6 [.ref (eA E 3), .int (zI oc)] := (k95 2 (by decide)).trans ((k92 2 (by decide)).trans ((k17 2 (by decide)).trans ((k14 2 (by decide)).trans ((k10 2 (by decide)).trans ((k7 2 (by decide)).trans hO.1)))))
                  have h127 : f94 3 = iz E 300 old := (k95 3 (by decide)).trans ((k92 3 (by decide)).trans ((k17 3 (by decide)).trans ((k14 3 (by decide)).trans ((k10 3 (by decide)).trans ((k7 3 (by decide)).trans hO.2)))))
                  refine F_callV hX (st := []) (c_Wr_readSizeR E f94 K g m1 pc1 c1 (t (512 + ((256 * h) + (g pc)))) h124 h125 hB ⟨h104, h105⟩ hm1 (by omega) h99 (by omega) (by omega)) cm_Wr_readSize im_Wr_readSize se_Wr_readSize rfl ml_Wr_109 d_Wr_make_89 (by decide) h124 rfl rfl (Nat.le_of_ble_eq_true rfl) (by decide) ?_
                  rintro _ f128 ⟨rfl, h131, k132⟩
                  refine G_cast (st' := [.int (zI (if (szR g (kC K) (t (512 + ((256 * h) + (g pc)))) pc1).1 ≤ kT K + kZ K - c1 then (szR g (kC K) (t (512 + ((256 * h) + (g pc)))) pc1).1 else -1))]) ?_ rfl rfl rfl rfl
                  have hsb := szR_b (g := g) (e := kC K) (ic := t (512 + ((256 * h) + (g pc)))) (pc := pc1) hB (by omega) (by omega)
                  by_cases hsz : 0 ≤ (szR g (kC K) (t (512 + ((256 * h) + (g pc)))) pc1).1 ∧ (szR g (kC K) (t (512 + ((256 * h) + (g pc)))) pc1).1 ≤ kT K + kZ K - c1
                  · skip
                    refine G_top (show zI (if (szR g (kC K) (t (512 + ((256 * h) + (g pc)))) pc1).1 ≤ kT K + kZ K - c1 then (szR g (kC K) (t (512 + ((256 * h) + (g pc)))) pc1).1 else -1) = zI ((szR g (kC K) (t (512 + ((256 * h) + (g pc)))) pc1).1) from by rw [if_pos (by omega)]) ?_
                    have ht3b := ht3 (256 * h + g pc) (by omega) (by omega)
                    by_cases hty : t (256 * h + g pc) = 1
                    · skip
                      refine G_istore hX (lv' := [(9, .int (zI ((szR g (kC K) (t (512 + ((256 * h) + (g pc)))) pc1).1))), (8, .int (zI (t ((256 * h) + (g pc))))), (7, .int (zI ((256 * h) + (g pc)))), (0, .ref (eA E 53)), (1, .ref (eA E 47)), (4, .int (zI i)), (5, .int (zI (g pc))), (6, .int (zI h))]) (by decide) rfl d_Wr_make_92 ?_
                      refine G_iload hX 0 rfl d_Wr_make_94 ?_
                      refine G_if_lt_z hX (tgt := 155) d_Wr_make_96 rfl (by omega) (fun c133 => by exfalso; omega) (fun c134 => ?_)
                      refine G_iload hX 1 rfl d_Wr_make_99 ?_
                      refine G_iconst hX d_Wr_make_101 ?_
                      refine G_icmp_ne_z hX (tgt := 114) d_Wr_make_102 rfl (by omega) (fun c135 => by exfalso; omega) (fun c136 => ?_)
                      refine G_aload_n hX 3 rfl rfl d_Wr_make_105 ?_
                      refine G_iload hX 0 rfl d_Wr_make_106 ?_
                      have h137 : f128 53 = ob 9 [.ref (eA E 54), .ref (eA E 55), .ref (eA E 56), .ref (eA E 57), .ref (eA E 58), .ref (eA E 45), .ref (eA E (if kO K = 2 then 45 else 2)), .int (zI (kF K)), .int (zI (kS K)), .int (zI (kT K)), .int (zI (kZ K)), .int (zI (kK K)), .long (zL (kV K))] := (k132 53 (by decide)).trans h124
                      have h138 : f128 55 = ob 1 [.ref (eA E 7), .int (zI pd1), .int (zI (kD K))] := (k132 55 (by decide)).trans h98
                      have h139 : f128 57 = ob 1 [.ref (eA E 7), .int (zI pa1), .int (zI (kA K))] := (k132 57 (by decide)).trans h100
                      have h140 : f128 45 = ob 6 [.ref (eA E 46), .int (zI c1)] := (k132 45 (by decide)).trans h104
                      have h141 : f128 46 = iz E 300 m1 := (k132 46 (by decide)).trans h105
                      have h142 : f128 59 = iz E 8 nr1 := (k132 59 (by decide)).trans h102
                      have h143 : f128 60 = iz E 1024 sm1 := (k132 60 (by decide)).trans h103
                      have h144 : f128 58 = ob 0 [.ref (eA E 59), .ref (eA E 60), .int (zI N), .int (zI S), .int (zI T1)] := (k132 58 (by decide)).trans h101
                      have h145 : f128 7 = iz E 700 g := (k132 7 (by decide)).trans h125
                      have h146 : f128 2 = ob 6 [.ref (eA E 3), .int (zI oc)] := (k132 2 (by decide)).trans h126
                      have h147 : f128 3 = iz E 300 old := (k132 3 (by decide)).trans h127
                      refine F_callV hX (st := []) (c_Wr_makeAddR E f128 K g m1 pd1 c1 ((szR g (kC K) (t (512 + ((256 * h) + (g pc)))) pc1).1) h137 h145 hB ⟨h140, h141⟩ hm1 (by omega) h138 (by omega) (by omega)) cm_Wr_makeAdd im_Wr_makeAdd se_Wr_makeAdd rfl ml_Wr_113 d_Wr_make_108 (by decide) h137 rfl rfl (Nat.le_of_ble_eq_true rfl) (by decide) ?_
                      rintro _ f148 (⟨h9, rfl, ⟨h9a, h9b⟩, h9c, k9⟩ | ⟨h9, rfl, h9e⟩)
                      · skip
                        refine G_cast (st' := [.int (zI 1)]) ?_ rfl rfl rfl rfl
                        refine G_if_eq_z hX (tgt := 155) d_Wr_make_111 rfl (by omega) (fun c153 => by exfalso; omega) (fun c154 => ?_)
                        refine G_iload hX 1 rfl d_Wr_make_114 ?_
                        refine G_iconst hX d_Wr_make_116 ?_
                        refine G_icmp_ne_z hX (tgt := 129) d_Wr_make_117 rfl (by omega) (fun c155 => ?_) (fun c156 => by exfalso; omega)
                        refine G_iload hX 1 rfl d_Wr_make_129 ?_
                        refine G_iconst hX d_Wr_make_131 ?_
                        refine G_icmp_ne_z hX (tgt := 158) d_Wr_make_132 rfl (by omega) (fun c157 => ?_) (fun c158 => by exfalso; omega)
                        refine G_iinc_z hX (lv' := [(6, .int (zI (h + 1))), (9, .int (zI ((szR g (kC K) (t (512 + ((256 * h) + (g pc)))) pc1).1))), (8, .int (zI (t ((256 * h) + (g pc))))), (7, .int (zI ((256 * h) + (g pc)))), (0, .ref (eA E 53)), (1, .ref (eA E 47)), (4, .int (zI i)), (5, .int (zI (g pc)))]) 7 rfl (by decide) rfl d_Wr_make_158 ?_
                        refine G_goto hX (tgt := 42) d_Wr_make_161 rfl ?_
                        have h159 : f148 56 = ob 1 [.ref (eA E 7), .int (zI ((szR g (kC K) (t (512 + ((256 * h) + (g pc)))) pc1).2)), .int (zI (kC K))] := (k9 56 (by decide)).trans h131
                        have h160 : f148 57 = ob 1 [.ref (eA E 7), .int (zI pa1), .int (zI (kA K))] := (k9 57 (by decide)).trans h139
                        have h161 : f148 59 = iz E 8 nr1 := (k9 59 (by decide)).trans h142
                        have h162 : f148 60 = iz E 1024 sm1 := (k9 60 (by decide)).trans h143
                        have h163 : f148 58 = ob 0 [.ref (eA E 59), .ref (eA E 60), .int (zI N), .int (zI S), .int (zI T1)] := (k9 58 (by decide)).trans h144
                        have e7 : inS K g t old N S (256 * h + g pc) pd1 pc1 pa1 c1 m1 nr1 sm1 T1 = some (pd1 + (szR g (kC K) (t (512 + ((256 * h) + (g pc)))) pc1).1, (szR g (kC K) (t (512 + ((256 * h) + (g pc)))) pc1).2, pa1, c1 + (szR g (kC K) (t (512 + ((256 * h) + (g pc)))) pc1).1, cz g m1 pd1 c1 ((szR g (kC K) (t (512 + ((256 * h) + (g pc)))) pc1).1), nr1, sm1, T1) := by unfold inS; rw [if_neg (by omega), if_neg (by omega), if_pos (by omega), if_neg (by omega)]
                        refine G_loc (lv' := [(0, .ref (eA E 53)), (1, .ref (eA E 47)), (4, .int (zI i)), (5, .int (zI (g pc))), (6, .int (zI (h + 1)))]) [4, 5, 6, 7, 0] rfl ?_
                        exact ih97 (h + 1) (pd1 + (szR g (kC K) (t (512 + ((256 * h) + (g pc)))) pc1).1) ((szR g (kC K) (t (512 + ((256 * h) + (g pc)))) pc1).2) pa1 (c1 + (szR g (kC K) (t (512 + ((256 * h) + (g pc)))) pc1).1) (cz g m1 pd1 c1 ((szR g (kC K) (t (512 + ((256 * h) + (g pc)))) pc1).1)) nr1 sm1 T1 f148 (by omega) (by omega) (by omega) (isB_cz hB hm1) hnr1 hsm1 (hs1.trans (hcS_s (by omega) e7)) h9c h159 h160 h163 h161 h162 h9a h9b (Fr.tr (Fr.tr (Fr.tr Fr.rf k95 (by decide)) k132 (by decide)) k9 (by decide))
                      · skip
                        obtain rfl := h9e.symm
                        refine G_cast (st' := [.int (zI 0)]) ?_ rfl rfl rfl rfl
                        have e7 : inS K g t old N S (256 * h + g pc) pd1 pc1 pa1 c1 m1 nr1 sm1 T1 = none := by unfold inS; rw [if_neg ht0, if_neg (by omega), if_pos (by omega), if_pos (by omega)]
                        have e9 : mkF K g t old N S m0 = none := hs1.trans (hcS_n (by omega) e7)
                        refine G_if_eq_z hX (tgt := 155) d_Wr_make_111 rfl (by omega) (fun c164 => ?_) (fun c165 => by exfalso; omega)
                        refine G_bipush hX (by decide) d_Wr_make_155 ?_
                        have e8 : mkE K (mkF K g t old N S m0) = -2 := by rw [e9]; rfl
                        rw [e8] at hE
                        exact F_iret hX hE d_Wr_make_157 ⟨rfl, ⟨_, _, ⟨h140, h141⟩, hm1, by omega, fun h9 => absurd h9 (by decide)⟩, ⟨_, _, h138⟩, ⟨_, _, h131⟩, ⟨_, _, h139⟩, ⟨_, _, _, _, _, ⟨h144, h142, h143⟩⟩, (Fr.tr (Fr.tr (Fr.tr (Fr.tr (Fr.tr (Fr.tr (Fr.tr Fr.rf k7 (by decide)) k10 (by decide)) k14 (by decide)) k17 (by decide)) k92 (by decide)) k95 (by decide)) k132 (by decide))⟩
                    · skip
                      by_cases hty2 : t (256 * h + g pc) = 2
                      · skip
                        refine G_istore hX (lv' := [(9, .int (zI ((szR g (kC K) (t (512 + ((256 * h) + (g pc)))) pc1).1))), (8, .int (zI (t ((256 * h) + (g pc))))), (7, .int (zI ((256 * h) + (g pc)))), (0, .ref (eA E 53)), (1, .ref (eA E 47)), (4, .int (zI i)), (5, .int (zI (g pc))), (6, .int (zI h))]) (by decide) rfl d_Wr_make_92 ?_
                        refine G_iload hX 0 rfl d_Wr_make_94 ?_
                        refine G_if_lt_z hX (tgt := 155) d_Wr_make_96 rfl (by omega) (fun c166 => by exfalso; omega) (fun c167 => ?_)
                        refine G_iload hX 1 rfl d_Wr_make_99 ?_
                        refine G_iconst hX d_Wr_make_101 ?_
                        refine G_icmp_ne_z hX (tgt := 114) d_Wr_make_102 rfl (by omega) (fun c168 => ?_) (fun c169 => by exfalso; omega)
                        refine G_iload hX 1 rfl d_Wr_make_114 ?_
                        refine G_iconst hX d_Wr_make_116 ?_
                        refine G_icmp_ne_z hX (tgt := 129) d_Wr_make_117 rfl (by omega) (fun c170 => by exfalso; omega) (fun c171 => ?_)
                        refine G_aload_n hX 3 rfl rfl d_Wr_make_120 ?_
                        refine G_iload hX 0 rfl d_Wr_make_121 ?_
                        have h172 : f128 53 = ob 9 [.ref (eA E 54), .ref (eA E 55), .ref (eA E 56), .ref (eA E 57), .ref (eA E 58), .ref (eA E 45), .ref (eA E (if kO K = 2 then 45 else 2)), .int (zI (kF K)), .int (zI (kS K)), .int (zI (kT K)), .int (zI (kZ K)), .int (zI (kK K)), .long (zL (kV K))] := (k132 53 (by decide)).trans h124
                        have h173 : f128 55 = ob 1 [.ref (eA E 7), .int (zI pd1), .int (zI (kD K))] := (k132 55 (by decide)).trans h98
                        have h174 : f128 57 = ob 1 [.ref (eA E 7), .int (zI pa1), .int (zI (kA K))] := (k132 57 (by decide)).trans h100
                        have h175 : f128 45 = ob 6 [.ref (eA E 46), .int (zI c1)] := (k132 45 (by decide)).trans h104
                        have h176 : f128 46 = iz E 300 m1 := (k132 46 (by decide)).trans h105
                        have h177 : f128 59 = iz E 8 nr1 := (k132 59 (by decide)).trans h102
                        have h178 : f128 60 = iz E 1024 sm1 := (k132 60 (by decide)).trans h103
                        have h179 : f128 58 = ob 0 [.ref (eA E 59), .ref (eA E 60), .int (zI N), .int (zI S), .int (zI T1)] := (k132 58 (by decide)).trans h101
                        have h180 : f128 7 = iz E 700 g := (k132 7 (by decide)).trans h125
                        have h181 : f128 2 = ob 6 [.ref (eA E 3), .int (zI oc)] := (k132 2 (by decide)).trans h126
                        have h182 : f128 3 = iz E 300 old := (k132 3 (by decide)).trans h127
                        refine F_callV hX (st := []) (c_Wr_makeRunR E f128 K g m1 pd1 c1 ((szR g (kC K) (t (512 + ((256 * h) + (g pc)))) pc1).1) h172 h180 hB ⟨h175, h176⟩ hm1 (by omega) h173 (by omega) (by omega)) cm_Wr_makeRun im_Wr_makeRun se_Wr_makeRun rfl ml_Wr_117 d_Wr_make_123 (by decide) h172 rfl rfl (Nat.le_of_ble_eq_true rfl) (by decide) ?_
                        rintro _ f183 (⟨h9, rfl, ⟨h9a, h9b⟩, h9c, k9⟩ | ⟨h9, rfl, h9c, k9⟩)
                        · skip
                          refine G_cast (st' := [.int (zI 1)]) ?_ rfl rfl rfl rfl
                          refine G_if_eq_z hX (tgt := 155) d_Wr_make_126 rfl (by omega) (fun c188 => by exfalso; omega) (fun c189 => ?_)
                          refine G_iload hX 1 rfl d_Wr_make_129 ?_
                          refine G_iconst hX d_Wr_make_131 ?_
                          refine G_icmp_ne_z hX (tgt := 158) d_Wr_make_132 rfl (by omega) (fun c190 => ?_) (fun c191 => by exfalso; omega)
                          refine G_iinc_z hX (lv' := [(6, .int (zI (h + 1))), (9, .int (zI ((szR g (kC K) (t (512 + ((256 * h) + (g pc)))) pc1).1))), (8, .int (zI (t ((256 * h) + (g pc))))), (7, .int (zI ((256 * h) + (g pc)))), (0, .ref (eA E 53)), (1, .ref (eA E 47)), (4, .int (zI i)), (5, .int (zI (g pc)))]) 7 rfl (by decide) rfl d_Wr_make_158 ?_
                          refine G_goto hX (tgt := 42) d_Wr_make_161 rfl ?_
                          have h192 : f183 56 = ob 1 [.ref (eA E 7), .int (zI ((szR g (kC K) (t (512 + ((256 * h) + (g pc)))) pc1).2)), .int (zI (kC K))] := (k9 56 (by decide)).trans h131
                          have h193 : f183 57 = ob 1 [.ref (eA E 7), .int (zI pa1), .int (zI (kA K))] := (k9 57 (by decide)).trans h174
                          have h194 : f183 59 = iz E 8 nr1 := (k9 59 (by decide)).trans h177
                          have h195 : f183 60 = iz E 1024 sm1 := (k9 60 (by decide)).trans h178
                          have h196 : f183 58 = ob 0 [.ref (eA E 59), .ref (eA E 60), .int (zI N), .int (zI S), .int (zI T1)] := (k9 58 (by decide)).trans h179
                          have e7 : inS K g t old N S (256 * h + g pc) pd1 pc1 pa1 c1 m1 nr1 sm1 T1 = some (pd1 + 1, (szR g (kC K) (t (512 + ((256 * h) + (g pc)))) pc1).2, pa1, c1 + (szR g (kC K) (t (512 + ((256 * h) + (g pc)))) pc1).1, pz m1 c1 (fun _ => g pd1) ((szR g (kC K) (t (512 + ((256 * h) + (g pc)))) pc1).1), nr1, sm1, T1) := by unfold inS; rw [if_neg (by omega), if_neg (by omega), if_neg (by omega), if_pos (by omega), if_neg (by omega)]
                          refine G_loc (lv' := [(0, .ref (eA E 53)), (1, .ref (eA E 47)), (4, .int (zI i)), (5, .int (zI (g pc))), (6, .int (zI (h + 1)))]) [4, 5, 6, 7, 0] rfl ?_
                          exact ih97 (h + 1) (pd1 + 1) ((szR g (kC K) (t (512 + ((256 * h) + (g pc)))) pc1).2) pa1 (c1 + (szR g (kC K) (t (512 + ((256 * h) + (g pc)))) pc1).1) (pz m1 c1 (fun _ => g pd1) ((szR g (kC K) (t (512 + ((256 * h) + (g pc)))) pc1).1)) nr1 sm1 T1 f183 (by omega) (by omega) (by omega) (isB_pz hm1 (fun _ => hB _)) hnr1 hsm1 (hs1.trans (hcS_s (by omega) e7)) h9c h192 h193 h196 h194 h195 h9a h9b (Fr.tr (Fr.tr (Fr.tr Fr.rf k95 (by decide)) k132 (by decide)) k9 (by decide))
                        · skip
                          refine G_cast (st' := [.int (zI 0)]) ?_ rfl rfl rfl rfl
                          have e7 : inS K g t old N S (256 * h + g pc) pd1 pc1 pa1 c1 m1 nr1 sm1 T1 = none := by unfold inS; rw [if_neg ht0, if_neg (by omega), if_neg (by omega), if_pos (by omega), if_pos (by omega)]
                          have e9 : mkF K g t old N S m0 = none := hs1.trans (hcS_n (by omega) e7)
                          refine G_if_eq_z hX (tgt := 155) d_Wr_make_126 rfl (by omega) (fun c197 => ?_) (fun c198 => by exfalso; omega)
                          refine G_bipush hX (by decide) d_Wr_make_155 ?_
                          have e8 : mkE K (mkF K g t old N S m0) = -2 := by rw [e9]; rfl
                          rw [e8] at hE
                          have h199 : f183 46 = iz E 300 m1 := (k9 46 (by decide)).trans h176
                          have h200 : f183 45 = ob 6 [.ref (eA E 46), .int (zI c1)] := (k9 45 (by decide)).trans h175
                          have h201 : f183 56 = ob 1 [.ref (eA E 7), .int (zI ((szR g (kC K) (t (512 + ((256 * h) + (g pc)))) pc1).2)), .int (zI (kC K))] := (k9 56 (by decide)).trans h131
                          have h202 : f183 57 = ob 1 [.ref (eA E 7), .int (zI pa1), .int (zI (kA K))] := (k9 57 (by decide)).trans h174
                          have h203 : f183 58 = ob 0 [.ref (eA E 59), .ref (eA E 60), .int (zI N), .int (zI S), .int (zI T1)] := (k9 58 (by decide)).trans h179
                          have h204 : f183 59 = iz E 8 nr1 := (k9 59 (by decide)).trans h177
                          have h205 : f183 60 = iz E 1024 sm1 := (k9 60 (by decide)).trans h178
                          exact F_iret hX hE d_Wr_make_157 ⟨rfl, ⟨_, _, ⟨h200, h199⟩, hm1, by omega, fun h9 => absurd h9 (by decide)⟩, ⟨_, _, h9c⟩, ⟨_, _, h201⟩, ⟨_, _, h202⟩, ⟨_, _, _, _, _, ⟨h203, h204, h205⟩⟩, (Fr.tr (Fr.tr (Fr.tr (Fr.tr (Fr.tr (Fr.tr (Fr.tr (Fr.tr Fr.rf k7 (by decide)) k10 (by decide)) k14 (by decide)) k17 (by decide)) k92 (by decide)) k95 (by decide)) k132 (by decide)) k9 (by decide))⟩
                      · skip
                        refine G_istore hX (lv' := [(9, .int (zI ((szR g (kC K) (t (512 + ((256 * h) + (g pc)))) pc1).1))), (8, .int (zI (t ((256 * h) + (g pc))))), (7, .int (zI ((256 * h) + (g pc)))), (0, .ref (eA E 53)), (1, .ref (eA E 47)), (4, .int (zI i)), (5, .int (zI (g pc))), (6, .int (zI h))]) (by decide) rfl d_Wr_make_92 ?_
                        refine G_iload hX 0 rfl d_Wr_make_94 ?_
                        refine G_if_lt_z hX (tgt := 155) d_Wr_make_96 rfl (by omega) (fun c206 => by exfalso; omega) (fun c207 => ?_)
                        refine G_iload hX 1 rfl d_Wr_make_99 ?_
                        refine G_iconst hX d_Wr_make_101 ?_
                        refine G_icmp_ne_z hX (tgt := 114) d_Wr_make_102 rfl (by omega) (fun c208 => ?_) (fun c209 => by exfalso; omega)
                        refine G_iload hX 1 rfl d_Wr_make_114 ?_
                        refine G_iconst hX d_Wr_make_116 ?_
                        refine G_icmp_ne_z hX (tgt := 129) d_Wr_make_117 rfl (by omega) (fun c210 => ?_) (fun c211 => by exfalso; omega)
                        refine G_iload hX 1 rfl d_Wr_make_129 ?_
                        refine G_iconst hX d_Wr_make_131 ?_
                        refine G_icmp_ne_z hX (tgt := 158) d_Wr_make_132 rfl (by omega) (fun c212 => by exfalso; omega) (fun c213 => ?_)
                        refine G_aload_n hX 3 rfl rfl d_Wr_make_135 ?_
                        refine G_iload hX 0 rfl d_Wr_make_136 ?_
                        refine G_aload_n hX 4 rfl rfl d_Wr_make_138 ?_
                        have h214 : f128 47 = ob 6 [.ref (eA E 48), .int (zI tc)] := (k132 47 (by decide)).trans h108
                        refine F_get hX fg_Wr_108 d_Wr_make_139 47 (by decide) h214 rfl ?_
                        refine G_sipush hX (by decide) d_Wr_make_142 ?_
                        refine G_iload hX 2 rfl d_Wr_make_145 ?_
                        refine G_iadd_z hX d_Wr_make_147 ?_
                        have h215 : f128 48 = iz E 1536 t := (k132 48 (by decide)).trans h109
                        refine F_iald hX d_Wr_make_148 48 (by decide) h215 (by omega) ?_
                        have b216 := htB (1024 + ((256 * h) + (g pc)))
                        have h217 : f128 53 = ob 9 [.ref (eA E 54), .ref (eA E 55), .ref (eA E 56), .ref (eA E 57), .ref (eA E 58), .ref (eA E 45), .ref (eA E (if kO K = 2 then 45 else 2)), .int (zI (kF K)), .int (zI (kS K)), .int (zI (kT K)), .int (zI (kZ K)), .int (zI (kK K)), .long (zL (kV K))] := (k132 53 (by decide)).trans h124
                        have h218 : f128 55 = ob 1 [.ref (eA E 7), .int (zI pd1), .int (zI (kD K))] := (k132 55 (by decide)).trans h98
                        have h219 : f128 57 = ob 1 [.ref (eA E 7), .int (zI pa1), .int (zI (kA K))] := (k132 57 (by decide)).trans h100
                        have h220 : f128 45 = ob 6 [.ref (eA E 46), .int (zI c1)] := (k132 45 (by decide)).trans h104
                        have h221 : f128 46 = iz E 300 m1 := (k132 46 (by decide)).trans h105
                        have h222 : f128 59 = iz E 8 nr1 := (k132 59 (by decide)).trans h102
                        have h223 : f128 60 = iz E 1024 sm1 := (k132 60 (by decide)).trans h103
                        have h224 : f128 58 = ob 0 [.ref (eA E 59), .ref (eA E 60), .int (zI N), .int (zI S), .int (zI T1)] := (k132 58 (by decide)).trans h101
                        have h225 : f128 7 = iz E 700 g := (k132 7 (by decide)).trans h125
                        have h226 : f128 2 = ob 6 [.ref (eA E 3), .int (zI oc)] := (k132 2 (by decide)).trans h126
                        have h227 : f128 3 = iz E 300 old := (k132 3 (by decide)).trans h127
                        have hhb := hrR_b (nr := nr1) (sm := sm1) (N := N) (S := S) (mode := t (1024 + ((256 * h) + (g pc)))) (here := kS K + c1 - kT K) (g := g) (pa := pa1) (e := kA K) hB (by omega)
                        refine F_callV hX (st := []) (c_Wr_makeCopyR E f128 K g old m1 nr1 sm1 pa1 c1 oc ((szR g (kC K) (t (512 + ((256 * h) + (g pc)))) pc1).1) (t (1024 + ((256 * h) + (g pc)))) N S T1 h217 h225 hB ⟨h220, h221⟩ hm1 (by omega) h219 (by omega) ⟨h224, h222, h223⟩ (by omega) hsm1 hnr1 ⟨h226, h227⟩ hoB hso (by omega) (by omega)) cm_Wr_makeCopy im_Wr_makeCopy se_Wr_makeCopy rfl ml_Wr_120 d_Wr_make_149 (by decide) h217 rfl rfl (Nat.le_of_ble_eq_true rfl) (by decide) ?_
                        rintro _ f228 (⟨hok, rfl, ⟨h9a, h9b⟩, h9c, ⟨h9d, h9e, h9f⟩, k9⟩ | ⟨hok, rfl, h9c, ⟨h9d, h9e, h9f⟩, k9⟩)
                        · skip
                          have hok1 := hok.1
                          have hok2 := hok.2
                          have hrt := rmT_b (N := N) (T := T1) (by omega) (by omega)
                          refine G_cast (st' := [.int (zI 1)]) ?_ rfl rfl rfl rfl
                          refine G_if_ne_z hX (tgt := 158) d_Wr_make_152 rfl (by omega) (fun c233 => ?_) (fun c234 => by exfalso; omega)
                          refine G_iinc_z hX (lv' := [(6, .int (zI (h + 1))), (9, .int (zI ((szR g (kC K) (t (512 + ((256 * h) + (g pc)))) pc1).1))), (8, .int (zI (t ((256 * h) + (g pc))))), (7, .int (zI ((256 * h) + (g pc)))), (0, .ref (eA E 53)), (1, .ref (eA E 47)), (4, .int (zI i)), (5, .int (zI (g pc)))]) 7 rfl (by decide) rfl d_Wr_make_158 ?_
                          refine G_goto hX (tgt := 42) d_Wr_make_161 rfl ?_
                          have h235 : f228 55 = ob 1 [.ref (eA E 7), .int (zI pd1), .int (zI (kD K))] := (k9 55 (by decide)).trans h218
                          have h236 : f228 56 = ob 1 [.ref (eA E 7), .int (zI ((szR g (kC K) (t (512 + ((256 * h) + (g pc)))) pc1).2)), .int (zI (kC K))] := (k9 56 (by decide)).trans h131
                          have e7 : inS K g t old N S (256 * h + g pc) pd1 pc1 pa1 c1 m1 nr1 sm1 T1 = some (pd1, (szR g (kC K) (t (512 + ((256 * h) + (g pc)))) pc1).2, (hrR nr1 sm1 N S (t (1024 + ((256 * h) + (g pc)))) (kS K + c1 - kT K) g pa1 (kA K)).2, c1 + (szR g (kC K) (t (512 + ((256 * h) + (g pc)))) pc1).1, cpL K old ((szR g (kC K) (t (512 + ((256 * h) + (g pc)))) pc1).1).toNat (hrR nr1 sm1 N S (t (1024 + ((256 * h) + (g pc)))) (kS K + c1 - kT K) g pa1 (kA K)).1 m1 c1, rmN nr1 N T1 (hrR nr1 sm1 N S (t (1024 + ((256 * h) + (g pc)))) (kS K + c1 - kT K) g pa1 (kA K)).1, rmS sm1 S (hrR nr1 sm1 N S (t (1024 + ((256 * h) + (g pc)))) (kS K + c1 - kT K) g pa1 (kA K)).1, rmT N T1) := by unfold inS; rw [if_neg (by omega), if_neg (by omega), if_neg (by omega), if_neg (by omega), if_pos hok]
                          refine G_loc (lv' := [(0, .ref (eA E 53)), (1, .ref (eA E 47)), (4, .int (zI i)), (5, .int (zI (g pc))), (6, .int (zI (h + 1)))]) [4, 5, 6, 7, 0] rfl ?_
                          exact ih97 (h + 1) pd1 ((szR g (kC K) (t (512 + ((256 * h) + (g pc)))) pc1).2) ((hrR nr1 sm1 N S (t (1024 + ((256 * h) + (g pc)))) (kS K + c1 - kT K) g pa1 (kA K)).2) (c1 + (szR g (kC K) (t (512 + ((256 * h) + (g pc)))) pc1).1) (cpL K old ((szR g (kC K) (t (512 + ((256 * h) + (g pc)))) pc1).1).toNat (hrR nr1 sm1 N S (t (1024 + ((256 * h) + (g pc)))) (kS K + c1 - kT K) g pa1 (kA K)).1 m1 c1) (rmN nr1 N T1 (hrR nr1 sm1 N S (t (1024 + ((256 * h) + (g pc)))) (kS K + c1 - kT K) g pa1 (kA K)).1) (rmS sm1 S (hrR nr1 sm1 N S (t (1024 + ((256 * h) + (g pc)))) (kS K + c1 - kT K) g pa1 (kA K)).1) (rmT N T1) f228 (by omega) (by omega) (by omega) (isB_cp hoB _ _ _ _ hm1) (rmN_b hnr1 (by omega)) (rmS_b hsm1 (by omega)) (hs1.trans (hcS_s (by omega) e7)) h235 h236 h9c h9d h9e h9f h9a h9b (Fr.tr (Fr.tr (Fr.tr Fr.rf k95 (by decide)) k132 (by decide)) k9 (by decide))
                        · skip
                          refine G_cast (st' := [.int (zI 0)]) ?_ rfl rfl rfl rfl
                          have e7 : inS K g t old N S (256 * h + g pc) pd1 pc1 pa1 c1 m1 nr1 sm1 T1 = none := by unfold inS; rw [if_neg ht0, if_neg (by omega), if_neg (by omega), if_neg (by omega), if_neg hok]
                          have e9 : mkF K g t old N S m0 = none := hs1.trans (hcS_n (by omega) e7)
                          refine G_if_ne_z hX (tgt := 158) d_Wr_make_152 rfl (by omega) (fun c237 => by exfalso; omega) (fun c238 => ?_)
                          refine G_bipush hX (by decide) d_Wr_make_155 ?_
                          have e8 : mkE K (mkF K g t old N S m0) = -2 := by rw [e9]; rfl
                          rw [e8] at hE
                          have h239 : f228 46 = iz E 300 m1 := (k9 46 (by decide)).trans h221
                          have h240 : f228 45 = ob 6 [.ref (eA E 46), .int (zI c1)] := (k9 45 (by decide)).trans h220
                          have h241 : f228 55 = ob 1 [.ref (eA E 7), .int (zI pd1), .int (zI (kD K))] := (k9 55 (by decide)).trans h218
                          have h242 : f228 56 = ob 1 [.ref (eA E 7), .int (zI ((szR g (kC K) (t (512 + ((256 * h) + (g pc)))) pc1).2)), .int (zI (kC K))] := (k9 56 (by decide)).trans h131
                          exact F_iret hX hE d_Wr_make_157 ⟨rfl, ⟨_, _, ⟨h240, h239⟩, hm1, by omega, fun h9 => absurd h9 (by decide)⟩, ⟨_, _, h241⟩, ⟨_, _, h242⟩, ⟨_, _, h9c⟩, ⟨_, _, _, _, _, ⟨h9d, h9e, h9f⟩⟩, (Fr.tr (Fr.tr (Fr.tr (Fr.tr (Fr.tr (Fr.tr (Fr.tr (Fr.tr Fr.rf k7 (by decide)) k10 (by decide)) k14 (by decide)) k17 (by decide)) k92 (by decide)) k95 (by decide)) k132 (by decide)) k9 (by decide))⟩
                  · skip
                    obtain ⟨z243, hz243⟩ : ∃ z, (if (szR g (kC K) (t (512 + ((256 * h) + (g pc)))) pc1).1 ≤ kT K + kZ K - c1 then (szR g (kC K) (t (512 + ((256 * h) + (g pc)))) pc1).1 else -1) = z := ⟨_, rfl⟩
                    have hz243n : z243 < 0 := by rw [← hz243]; split <;> omega
                    refine G_top (show zI (if (szR g (kC K) (t (512 + ((256 * h) + (g pc)))) pc1).1 ≤ kT K + kZ K - c1 then (szR g (kC K) (t (512 + ((256 * h) + (g pc)))) pc1).1 else -1) = zI z243 from by rw [hz243]) ?_
                    have e7 : inS K g t old N S (256 * h + g pc) pd1 pc1 pa1 c1 m1 nr1 sm1 T1 = none := by unfold inS; rw [if_neg ht0, if_pos (by omega)]
                    have e9 : mkF K g t old N S m0 = none := hs1.trans (hcS_n (by omega) e7)
                    refine G_istore hX (lv' := [(9, .int (zI z243)), (8, .int (zI (t ((256 * h) + (g pc))))), (7, .int (zI ((256 * h) + (g pc)))), (0, .ref (eA E 53)), (1, .ref (eA E 47)), (4, .int (zI i)), (5, .int (zI (g pc))), (6, .int (zI h))]) (by decide) rfl d_Wr_make_92 ?_
                    refine G_iload hX 0 rfl d_Wr_make_94 ?_
                    refine G_if_lt_z hX (tgt := 155) d_Wr_make_96 rfl (by omega) (fun c244 => ?_) (fun c245 => by exfalso; omega)
                    refine G_bipush hX (by decide) d_Wr_make_155 ?_
                    have e8 : mkE K (mkF K g t old N S m0) = -2 := by rw [e9]; rfl
                    rw [e8] at hE
                    have h246 : f128 46 = iz E 300 m1 := (k132 46 (by decide)).trans h105
                    have h247 : f128 45 = ob 6 [.ref (eA E 46), .int (zI c1)] := (k132 45 (by decide)).trans h104
                    have h248 : f128 55 = ob 1 [.ref (eA E 7), .int (zI pd1), .int (zI (kD K))] := (k132 55 (by decide)).trans h98
                    have h249 : f128 57 = ob 1 [.ref (eA E 7), .int (zI pa1), .int (zI (kA K))] := (k132 57 (by decide)).trans h100
                    have h250 : f128 58 = ob 0 [.ref (eA E 59), .ref (eA E 60), .int (zI N), .int (zI S), .int (zI T1)] := (k132 58 (by decide)).trans h101
                    have h251 : f128 59 = iz E 8 nr1 := (k132 59 (by decide)).trans h102
                    have h252 : f128 60 = iz E 1024 sm1 := (k132 60 (by decide)).trans h103
                    exact F_iret hX hE d_Wr_make_157 ⟨rfl, ⟨_, _, ⟨h247, h246⟩, hm1, by omega, fun h9 => absurd h9 (by decide)⟩, ⟨_, _, h248⟩, ⟨_, _, h131⟩, ⟨_, _, h249⟩, ⟨_, _, _, _, _, ⟨h250, h251, h252⟩⟩, (Fr.tr (Fr.tr (Fr.tr (Fr.tr (Fr.tr (Fr.tr (Fr.tr Fr.rf k7 (by decide)) k10 (by decide)) k14 (by decide)) k17 (by decide)) k92 (by decide)) k95 (by decide)) k132 (by decide))⟩
          have h253 : f88 55 = ob 1 [.ref (eA E 7), .int (zI pd), .int (zI (kD K))] := (k92 55 (by decide)).trans h20
          have h254 : f88 57 = ob 1 [.ref (eA E 7), .int (zI pa), .int (zI (kA K))] := (k92 57 (by decide)).trans h22
          have h255 : f88 58 = ob 0 [.ref (eA E 59), .ref (eA E 60), .int (zI N), .int (zI S), .int (zI T)] := (k92 58 (by decide)).trans h23
          have h256 : f88 59 = iz E 8 nr := (k92 59 (by decide)).trans h24
          have h257 : f88 60 = iz E 1024 sm := (k92 60 (by decide)).trans h25
          have h258 : f88 45 = ob 6 [.ref (eA E 46), .int (zI c)] := (k92 45 (by decide)).trans h26
          have h259 : f88 46 = iz E 300 m := (k92 46 (by decide)).trans h27
          refine G_loc (lv' := [(0, .ref (eA E 53)), (1, .ref (eA E 47)), (4, .int (zI i)), (5, .int (zI (g pc))), (6, .int (zI 0))]) [2, 3, 4, 1, 0] rfl ?_
          exact loop93 (_ + 1) 0 pd (pc + 1) pa c m nr sm T f88 (Nat.lt_succ_self _) (by omega) (by omega) hm hnr hsm (hs.trans (cdS_s (by omega) hlt)) h253 h9p h254 h255 h256 h257 h258 h259 Fr.rf
  have h260 : f12 55 = ob 1 [.ref (eA E 7), .int (zI (kB K)), .int (zI (kD K))] := (k14 55 (by decide)).trans ((k10 55 (by decide)).trans ((k7 55 (by decide)).trans hD))
  have h261 : f12 56 = ob 1 [.ref (eA E 7), .int (zI (kD K)), .int (zI (kC K))] := (k14 56 (by decide)).trans ((k10 56 (by decide)).trans ((k7 56 (by decide)).trans hC))
  have h262 : f12 57 = ob 1 [.ref (eA E 7), .int (zI (kC K)), .int (zI (kA K))] := (k14 57 (by decide)).trans ((k10 57 (by decide)).trans ((k7 57 (by decide)).trans hA))
  have h263 : f12 58 = ob 0 [.ref (eA E 59), .ref (eA E 60), .int (zI N), .int (zI S), .int (zI 0)] := (k14 58 (by decide)).trans ((k10 58 (by decide)).trans h4)
  have h264 : f12 59 = iz E 8 (fun _ => 0) := (k14 59 (by decide)).trans h9
  have h265 : f12 45 = ob 6 [.ref (eA E 46), .int (zI (kT K))] := (k14 45 (by decide)).trans ((k10 45 (by decide)).trans ((k7 45 (by decide)).trans hM.1))
  have h266 : f12 46 = iz E 300 m0 := (k14 46 (by decide)).trans ((k10 46 (by decide)).trans ((k7 46 (by decide)).trans hM.2))
  refine G_loc (lv' := [(0, .ref (eA E 53)), (1, .ref (eA E 47)), (4, .int (zI 0))]) [1, 2, 0] rfl ?_
  exact loop15 (_ + 1) 0 (kB K) (kD K) (kC K) (kT K) m0 (fun _ => 0) (fun _ => 0) 0 f12 (Nat.lt_succ_self _) (by omega) (by omega) hm0 (fun k => by constructor <;> omega) (fun k => by constructor <;> omega) rfl h260 h261 h262 h263 h264 h13 h265 h266 Fr.rf
theorem c_Wr_makeT49 (E : EV) (f : Nat → va_E) (K : WK) (g old m0 nr0 sm0 : Int → Int) (oc N S N0 S0 T0 : Int) (hW : isWrT E f K) (hg : f 7 = iz E 700 g) (hB : isB g) (hM : isR E f 47 48 1536 m0 (kT K)) (hm0 : isB m0) (hk : 0 ≤ kT K ∧ 0 ≤ kZ K ∧ kT K + kZ K ≤ 1536 ∧ 0 ≤ kB K ∧ kB K ≤ kD K ∧ kD K ≤ kC K ∧ kC K ≤ kA K ∧ kA K ≤ 700) (hkk : (kK K = 0 ∨ kK K = 1) ∧ 0 ≤ kV K ∧ kV K < 4294967296) (hD : isC E f 55 7 (kB K) (kD K)) (hC : isC E f 56 7 (kD K) (kC K)) (hA : isC E f 57 7 (kC K) (kA K)) (hR : isA E f 58 59 60 nr0 sm0 N0 S0 T0) (hO : isR E f 49 50 1536 old oc) (hoB : isB old) (hso : 0 ≤ kF K ∧ 0 ≤ kS K ∧ (kO K = 2 → kF K + kS K ≤ kT K) ∧ (¬ kO K = 2 → kF K + kS K ≤ 1536)) (hss : kS K ≤ 1536) (ht3 : ∀ k, 0 ≤ k → k < 512 → old k ≤ 3) (hN : 0 ≤ N ∧ N ≤ 8 ∧ 0 ≤ S ∧ S ≤ 4) : CF yn_Wr_make cd_Wr_make 10 (some (.int)) 3 E [.ref (eA E 53), .ref (eA E 49), .int (zI N), .int (zI S)] f (fun r f' => r = some (.int (zI (mkE K (mkF K g old old N S m0)))) ∧ (∃ (m1 : Int → Int) (c1 : Int), isR E f' 47 48 1536 m1 c1 ∧ isB m1 ∧ (0 ≤ c1 ∧ c1 ≤ 1536) ∧ (mkE K (mkF K g old old N S m0) = 0 → m1 = mkM m0 (mkF K g old old N S m0) ∧ c1 = kT K + kZ K)) ∧ (∃ p1 e1, isC E f' 55 7 p1 e1) ∧ (∃ p1 e1, isC E f' 56 7 p1 e1) ∧ (∃ p1 e1, isC E f' 57 7 p1 e1) ∧ (∃ nr1 sm1 N1 S1 T1, isA E f' 58 59 60 nr1 sm1 N1 S1 T1) ∧ Fr [55, 56, 57, 58, 59, 60, 47, 48] f f') := by
  refine CF.of (by decide +kernel) (Nat.le_of_ble_eq_true rfl) fun X hX hE => ?_
  have hX : Ok E X "DeltaFerry$WindowReader" "make" cd_Wr_make 10 (some (.int)) (rl 3) := hX
  refine G_cast (lv' := [(0, .ref (eA E 53)), (1, .ref (eA E 49)), (2, .int (zI N)), (3, .int (zI S))]) ?_ rfl rfl rfl rfl
  refine G_aload_n hX 0 rfl rfl d_Wr_make_0 ?_
  refine F_get hX fg_Wr_30 d_Wr_make_1 53 (by decide) hW rfl ?_
  refine G_iload_n hX 2 rfl rfl d_Wr_make_4 ?_
  refine G_iload_n hX 3 rfl rfl d_Wr_make_5 ?_
  refine F_callV hX (st := []) (c_Ad_open E f 58 59 60 nr0 sm0 N0 S0 T0 N S (by decide) (by decide) (by decide) (by decide) (by decide) (by decide) ⟨hR.1, hR.2.1, hR.2.2⟩) cm_Ad_open im_Ad_open se_Ad_open rfl ml_Wr_105 d_Wr_make_6 (by decide) hR.1 rfl rfl (Nat.le_of_ble_eq_true rfl) (by decide) ?_
  rintro _ f1 ⟨rfl, ⟨h4, h5, h6⟩, k7⟩
  refine G_cast (st' := []) ?_ rfl rfl rfl rfl
  refine F_nrmz 59 (fun _ => 0) (by decide) h5 (fun k _ h9 => by unfold kz; rw [if_pos (by omega)]) (fun f8 h9 k10 => ?_)
  have h11 : f8 60 = iz E 1024 (kz sm0 1024 0) := (k10 60 (by decide)).trans h6
  refine F_nrmz 60 (fun _ => 0) (by decide) h11 (fun k _ h9 => by unfold kz; rw [if_pos (by omega)]) (fun f12 h13 k14 => ?_)
  refine G_iconst hX d_Wr_make_9 ?_
  refine G_istore hX (lv' := [(4, .int (zI 0)), (0, .ref (eA E 53)), (1, .ref (eA E 49)), (2, .int (zI N)), (3, .int (zI S))]) (by decide) rfl d_Wr_make_10 ?_
  have loop15 : ∀ (q : Nat) (i : Int) (pd : Int) (pc : Int) (pa : Int) (c : Int) (m : Int → Int) (nr : Int → Int) (sm : Int → Int) (T : Int) (f16 : Nat → va_E), (700 - i).toNat < q → (0 ≤ i ∧ i ≤ 700) → ((0 ≤ pd ∧ pd ≤ kD K) ∧ (0 ≤ pc ∧ pc ≤ kC K) ∧ (0 ≤ pa ∧ pa ≤ kA K) ∧ (kT K ≤ c ∧ c ≤ kT K + kZ K) ∧ (0 ≤ T ∧ T < 8)) → (isB m) → (∀ k, 0 ≤ nr k ∧ nr k < 100000) → (∀ k, 0 ≤ sm k ∧ sm k < 100000) → (mkF K g old old N S m0 = cdS K g old old N S (700 - i).toNat pd pc pa c m nr sm T) → f16 55 = ob 1 [.ref (eA E 7), .int (zI pd), .int (zI (kD K))] → f16 56 = ob 1 [.ref (eA E 7), .int (zI pc), .int (zI (kC K))] → f16 57 = ob 1 [.ref (eA E 7), .int (zI pa), .int (zI (kA K))] → f16 58 = ob 0 [.ref (eA E 59), .ref (eA E 60), .int (zI N), .int (zI S), .int (zI T)] → f16 59 = iz E 8 nr → f16 60 = iz E 1024 sm → f16 47 = ob 6 [.ref (eA E 48), .int (zI c)] → f16 48 = iz E 1536 m → Fr [55, 56, 57, 58, 59, 60, 47, 48] f12 f16 → G E X 0 0 12 [(0, .ref (eA E 53)), (1, .ref (eA E 49)), (4, .int (zI i))] [] (wl E f16) := by
    intro q
    induction q with
    | zero => intro i pd pc pa c m nr sm T f16 hms18; exact absurd hms18 (Nat.not_lt_zero _)
    | succ q ih19 =>
      intro i pd pc pa c m nr sm T f16 hms18 hi hb hm hnr hsm hs h20 h21 h22 h23 h24 h25 h26 h27 k17
      refine G_iload hX 2 rfl d_Wr_make_12 ?_
      refine G_sipush hX (by decide) d_Wr_make_14 ?_
      refine G_icmp_ge_z hX (tgt := 170) d_Wr_make_17 rfl (by omega) (fun c28 => ?_) (fun c29 => ?_)
      · skip
        refine G_aload_n hX 0 rfl rfl d_Wr_make_170 ?_
        have h30 : f16 53 = ob 9 [.ref (eA E 54), .ref (eA E 55), .ref (eA E 56), .ref (eA E 57), .ref (eA E 58), .ref (eA E 47), .ref (eA E (if kO K = 2 then 47 else 49)), .int (zI (kF K)), .int (zI (kS K)), .int (zI (kT K)), .int (zI (kZ K)), .int (zI (kK K)), .long (zL (kV K))] := (k17 53 (by decide)).trans ((k14 53 (by decide)).trans ((k10 53 (by decide)).trans ((k7 53 (by decide)).trans hW)))
        refine F_get hX fg_Wr_39 d_Wr_make_171 53 (by decide) h30 rfl ?_
        refine F_get hX fg_Wr_46 d_Wr_make_174 47 (by decide) h26 rfl ?_
        refine G_aload_n hX 0 rfl rfl d_Wr_make_177 ?_
        refine F_get hX fg_Wr_50 d_Wr_make_178 53 (by decide) h30 rfl ?_
        refine G_aload_n hX 0 rfl rfl d_Wr_make_181 ?_
        refine F_get hX fg_Wr_82 d_Wr_make_182 53 (by decide) h30 rfl ?_
        refine G_iadd_z hX d_Wr_make_185 ?_
        refine G_icmp_ne_z hX (tgt := 209) d_Wr_make_186 rfl (by omega) (fun c31 => ?_) (fun c32 => ?_)
        · skip
          refine G_bipush hX (by decide) d_Wr_make_209 ?_
          first
            | (exfalso; omega)
            | skip
          have e9 : mkF K g old old N S m0 = some (pd, pc, pa, c, m, nr, sm, T) := hs.trans (cdS_e (by omega))
          have e8 : mkE K (mkF K g old old N S m0) = -2 := by rw [e9, mkE_s]; rw [if_pos (by omega)]
          rw [e8] at hE
          exact F_iret hX hE d_Wr_make_211 ⟨rfl, ⟨_, _, ⟨h26, h27⟩, hm, by omega, fun h9 => absurd h9 (by decide)⟩, ⟨_, _, h20⟩, ⟨_, _, h21⟩, ⟨_, _, h22⟩, ⟨_, _, _, _, _, ⟨h23, h24, h25⟩⟩, (Fr.tr (Fr.tr (Fr.tr (Fr.tr Fr.rf k7 (by decide)) k10 (by decide)) k14 (by decide)) k17 (by decide))⟩
        · skip
          refine G_aload_n hX 0 rfl rfl d_Wr_make_189 ?_
          refine F_get hX fg_Wr_18 d_Wr_make_190 53 (by decide) h30 rfl ?_
          have h33 : f16 7 = iz E 700 g := (k17 7 (by decide)).trans ((k14 7 (by decide)).trans ((k10 7 (by decide)).trans ((k7 7 (by decide)).trans hg)))
          refine F_callV hX (st := []) (c_Cu_left E f16 55 7 700 g pd (kD K) (by decide) (by decide) (by decide) h20 h33 (by omega)) cm_Cu_left im_Cu_left se_Cu_left rfl ml_Wr_68 d_Wr_make_193 (by decide) h20 rfl rfl (Nat.le_of_ble_eq_true rfl) (by decide) ?_
          rintro _ f34 ⟨rfl, e37⟩
          obtain rfl := e37.symm
          refine G_cast (st' := [.int (zI ((kD K) - pd))]) ?_ rfl rfl rfl rfl
          refine G_if_gt_z hX (tgt := 209) d_Wr_make_196 rfl (by omega) (fun c38 => ?_) (fun c39 => ?_)
          · skip
            refine G_bipush hX (by decide) d_Wr_make_209 ?_
            first
              | (exfalso; omega)
              | skip
            have e9 : mkF K g old old N S m0 = some (pd, pc, pa, c, m, nr, sm, T) := hs.trans (cdS_e (by omega))
            have e8 : mkE K (mkF K g old old N S m0) = -2 := by rw [e9, mkE_s]; rw [if_pos (by omega)]
            rw [e8] at hE
            exact F_iret hX hE d_Wr_make_211 ⟨rfl, ⟨_, _, ⟨h26, h27⟩, hm, by omega, fun h9 => absurd h9 (by decide)⟩, ⟨_, _, h20⟩, ⟨_, _, h21⟩, ⟨_, _, h22⟩, ⟨_, _, _, _, _, ⟨h23, h24, h25⟩⟩, (Fr.tr (Fr.tr (Fr.tr (Fr.tr Fr.rf k7 (by decide)) k10 (by decide)) k14 (by decide)) k17 (by decide))⟩
          · skip
            refine G_aload_n hX 0 rfl rfl d_Wr_make_199 ?_
            refine F_get hX fg_Wr_24 d_Wr_make_200 53 (by decide) h30 rfl ?_
            refine F_callV hX (st := []) (c_Cu_left E f16 57 7 700 g pa (kA K) (by decide) (by decide) (by decide) h22 h33 (by omega)) cm_Cu_left im_Cu_left se_Cu_left rfl ml_Wr_68 d_Wr_make_203 (by decide) h22 rfl rfl (Nat.le_of_ble_eq_true rfl) (by decide) ?_
            rintro _ f40 ⟨rfl, e43⟩
            obtain rfl := e43.symm
            refine G_cast (st' := [.int (zI ((kA K) - pa))]) ?_ rfl rfl rfl rfl
            refine G_if_le_z hX (tgt := 212) d_Wr_make_206 rfl (by omega) (fun c44 => ?_) (fun c45 => ?_)
            · skip
              refine G_aload_n hX 0 rfl rfl d_Wr_make_212 ?_
              refine F_get hX fg_Wr_61 d_Wr_make_213 53 (by decide) h30 rfl ?_
              refine G_if_eq_z hX (tgt := 250) d_Wr_make_216 rfl (by omega) (fun c46 => ?_) (fun c47 => ?_)
              · skip
                refine G_iconst hX d_Wr_make_250 ?_
                first
                  | (exfalso; omega)
                  | skip
                have e9 : mkF K g old old N S m0 = some (pd, pc, pa, c, m, nr, sm, T) := hs.trans (cdS_e (by omega))
                have e8 : mkE K (mkF K g old old N S m0) = 0 := by rw [e9, mkE_s]; rw [if_neg (by omega), if_neg (fun hq => by first | exact absurd hq.1 (by omega) | exact hq.2 heq)]
                rw [e8] at hE
                exact F_iret hX hE d_Wr_make_251 ⟨rfl, ⟨_, _, ⟨h26, h27⟩, hm, by omega, fun _ => ⟨by rw [e9]; rfl, by omega⟩⟩, ⟨_, _, h20⟩, ⟨_, _, h21⟩, ⟨_, _, h22⟩, ⟨_, _, _, _, _, ⟨h23, h24, h25⟩⟩, (Fr.tr (Fr.tr (Fr.tr (Fr.tr Fr.rf k7 (by decide)) k10 (by decide)) k14 (by decide)) k17 (by decide))⟩
              · skip
                refine G_aload_n hX 0 rfl rfl d_Wr_make_219 ?_
                refine F_get hX fg_Wr_39 d_Wr_make_220 53 (by decide) h30 rfl ?_
                refine F_get hX fg_Wr_108 d_Wr_make_223 47 (by decide) h26 rfl ?_
                refine G_aload_n hX 0 rfl rfl d_Wr_make_226 ?_
                refine F_get hX fg_Wr_50 d_Wr_make_227 53 (by decide) h30 rfl ?_
                refine G_aload_n hX 0 rfl rfl d_Wr_make_230 ?_
                refine F_get hX fg_Wr_82 d_Wr_make_231 53 (by decide) h30 rfl ?_
                refine F_callSN hX (st := []) (host := "DeltaFerry") (c_Df_checkOf E f16 48 1536 m (kT K) (kZ K) (by decide) h27 hm (by omega)) cm_Df_checkOf sm_Df_checkOf (by decide +kernel) d_Wr_make_234 rfl rfl (Nat.le_of_ble_eq_true rfl) (by decide) ?_
                rintro _ f48 ⟨rfl, e51⟩
                obtain rfl := e51.symm
                refine G_cast (st' := [.long (zL (adV m (kT K) (kZ K)))]) ?_ rfl rfl rfl rfl
                refine G_aload_n hX 0 rfl rfl d_Wr_make_237 ?_
                refine F_get hX fg_Wr_96 d_Wr_make_238 53 (by decide) h30 rfl ?_
                refine G_lcmp hX d_Wr_make_241 ?_
                have had := adS_b m (kT K) (kZ K).toNat
                have had2 : 0 ≤ adV m (kT K) (kZ K) ∧ adV m (kT K) (kZ K) < 4294967296 := by unfold adV; omega
                by_cases heq : adV m (kT K) (kZ K) = kV K
                · skip
                  refine G_top (show (lg_cmp (zL (adV m (kT K) (kZ K))) (zL (kV K))) = zI 0 from by rw [heq]; exact (lg_cmp_eq _ _).mpr rfl) ?_
                  refine G_if_eq_z hX (tgt := 250) d_Wr_make_242 rfl (by omega) (fun c52 => ?_) (fun c53 => by exfalso; omega)
                  refine G_iconst hX d_Wr_make_250 ?_
                  first
                    | (exfalso; omega)
                    | skip
                  have e9 : mkF K g old old N S m0 = some (pd, pc, pa, c, m, nr, sm, T) := hs.trans (cdS_e (by omega))
                  have e8 : mkE K (mkF K g old old N S m0) = 0 := by rw [e9, mkE_s]; rw [if_neg (by omega), if_neg (fun hq => by first | exact absurd hq.1 (by omega) | exact hq.2 heq)]
                  rw [e8] at hE
                  exact F_iret hX hE d_Wr_make_251 ⟨rfl, ⟨_, _, ⟨h26, h27⟩, hm, by omega, fun _ => ⟨by rw [e9]; rfl, by omega⟩⟩, ⟨_, _, h20⟩, ⟨_, _, h21⟩, ⟨_, _, h22⟩, ⟨_, _, _, _, _, ⟨h23, h24, h25⟩⟩, (Fr.tr (Fr.tr (Fr.tr (Fr.tr Fr.rf k7 (by decide)) k10 (by decide)) k14 (by decide)) k17 (by decide))⟩
                · skip
                  have hne : adV m (kT K) (kZ K) ≠ kV K := heq
                  refine G_if_eq hX (tgt := 250) d_Wr_make_242 rfl (fun c54 => by exact absurd ((zL_eq (by omega)).mp ((lg_cmp_eq _ _).mp ‹lg_cmp _ _ = 0›)) heq) (fun c55 => ?_)
                  refine G_bipush hX (by decide) d_Wr_make_245 ?_
                  refine G_goto hX (tgt := 251) d_Wr_make_247 rfl ?_
                  first
                    | (exfalso; omega)
                    | skip
                  have e9 : mkF K g old old N S m0 = some (pd, pc, pa, c, m, nr, sm, T) := hs.trans (cdS_e (by omega))
                  have e8 : mkE K (mkF K g old old N S m0) = -6 := by rw [e9, mkE_s]; rw [if_neg (by omega), if_pos ⟨by omega, hne⟩]
                  rw [e8] at hE
                  exact F_iret hX hE d_Wr_make_251 ⟨rfl, ⟨_, _, ⟨h26, h27⟩, hm, by omega, fun h9 => absurd h9 (by decide)⟩, ⟨_, _, h20⟩, ⟨_, _, h21⟩, ⟨_, _, h22⟩, ⟨_, _, _, _, _, ⟨h23, h24, h25⟩⟩, (Fr.tr (Fr.tr (Fr.tr (Fr.tr Fr.rf k7 (by decide)) k10 (by decide)) k14 (by decide)) k17 (by decide))⟩
            · skip
              refine G_bipush hX (by decide) d_Wr_make_209 ?_
              first
                | (exfalso; omega)
                | skip
              have e9 : mkF K g old old N S m0 = some (pd, pc, pa, c, m, nr, sm, T) := hs.trans (cdS_e (by omega))
              have e8 : mkE K (mkF K g old old N S m0) = -2 := by rw [e9, mkE_s]; rw [if_pos (by omega)]
              rw [e8] at hE
              exact F_iret hX hE d_Wr_make_211 ⟨rfl, ⟨_, _, ⟨h26, h27⟩, hm, by omega, fun h9 => absurd h9 (by decide)⟩, ⟨_, _, h20⟩, ⟨_, _, h21⟩, ⟨_, _, h22⟩, ⟨_, _, _, _, _, ⟨h23, h24, h25⟩⟩, (Fr.tr (Fr.tr (Fr.tr (Fr.tr Fr.rf k7 (by decide)) k10 (by decide)) k14 (by decide)) k17 (by decide))⟩
      · skip
        refine G_aload_n hX 0 rfl rfl d_Wr_make_20 ?_
        have h56 : f16 53 = ob 9 [.ref (eA E 54), .ref (eA E 55), .ref (eA E 56), .ref (eA E 57), .ref (eA E 58), .ref (eA E 47), .ref (eA E (if kO K = 2 then 47 else 49)), .int (zI (kF K)), .int (zI (kS K)), .int (zI (kT K)), .int (zI (kZ K)), .int (zI (kK K)), .long (zL (kV K))] := (k17 53 (by decide)).trans ((k14 53 (by decide)).trans ((k10 53 (by decide)).trans ((k7 53 (by decide)).trans hW)))
        refine F_get hX fg_Wr_21 d_Wr_make_21 53 (by decide) h56 rfl ?_
        have h57 : f16 7 = iz E 700 g := (k17 7 (by decide)).trans ((k14 7 (by decide)).trans ((k10 7 (by decide)).trans ((k7 7 (by decide)).trans hg)))
        refine F_callV hX (st := []) (c_Cu_left E f16 56 7 700 g pc (kC K) (by decide) (by decide) (by decide) h21 h57 (by omega)) cm_Cu_left im_Cu_left se_Cu_left rfl ml_Wr_68 d_Wr_make_24 (by decide) h21 rfl rfl (Nat.le_of_ble_eq_true rfl) (by decide) ?_
        rintro _ f58 ⟨rfl, e61⟩
        obtain rfl := e61.symm
        refine G_cast (st' := [.int (zI ((kC K) - pc))]) ?_ rfl rfl rfl rfl
        refine G_if_le_z hX (tgt := 170) d_Wr_make_27 rfl (by omega) (fun c62 => ?_) (fun c63 => ?_)
        · skip
          refine G_aload_n hX 0 rfl rfl d_Wr_make_170 ?_
          refine F_get hX fg_Wr_39 d_Wr_make_171 53 (by decide) h56 rfl ?_
          refine F_get hX fg_Wr_46 d_Wr_make_174 47 (by decide) h26 rfl ?_
          refine G_aload_n hX 0 rfl rfl d_Wr_make_177 ?_
          refine F_get hX fg_Wr_50 d_Wr_make_178 53 (by decide) h56 rfl ?_
          refine G_aload_n hX 0 rfl rfl d_Wr_make_181 ?_
          refine F_get hX fg_Wr_82 d_Wr_make_182 53 (by decide) h56 rfl ?_
          refine G_iadd_z hX d_Wr_make_185 ?_
          refine G_icmp_ne_z hX (tgt := 209) d_Wr_make_186 rfl (by omega) (fun c64 => ?_) (fun c65 => ?_)
          · skip
            refine G_bipush hX (by decide) d_Wr_make_209 ?_
            first
              | (exfalso; omega)
              | skip
            have e9 : mkF K g old old N S m0 = some (pd, pc, pa, c, m, nr, sm, T) := hs.trans (cdS_e (by omega))
            have e8 : mkE K (mkF K g old old N S m0) = -2 := by rw [e9, mkE_s]; rw [if_pos (by omega)]
            rw [e8] at hE
            exact F_iret hX hE d_Wr_make_211 ⟨rfl, ⟨_, _, ⟨h26, h27⟩, hm, by omega, fun h9 => absurd h9 (by decide)⟩, ⟨_, _, h20⟩, ⟨_, _, h21⟩, ⟨_, _, h22⟩, ⟨_, _, _, _, _, ⟨h23, h24, h25⟩⟩, (Fr.tr (Fr.tr (Fr.tr (Fr.tr Fr.rf k7 (by decide)) k10 (by decide)) k14 (by decide)) k17 (by decide))⟩
          · skip
            refine G_aload_n hX 0 rfl rfl d_Wr_make_189 ?_
            refine F_get hX fg_Wr_18 d_Wr_make_190 53 (by decide) h56 rfl ?_
            refine F_callV hX (st := []) (c_Cu_left E f16 55 7 700 g pd (kD K) (by decide) (by decide) (by decide) h20 h57 (by omega)) cm_Cu_left im_Cu_left se_Cu_left rfl ml_Wr_68 d_Wr_make_193 (by decide) h20 rfl rfl (Nat.le_of_ble_eq_true rfl) (by decide) ?_
            rintro _ f66 ⟨rfl, e69⟩
            obtain rfl := e69.symm
            refine G_cast (st' := [.int (zI ((kD K) - pd))]) ?_ rfl rfl rfl rfl
            refine G_if_gt_z hX (tgt := 209) d_Wr_make_196 rfl (by omega) (fun c70 => ?_) (fun c71 => ?_)
            · skip
              refine G_bipush hX (by decide) d_Wr_make_209 ?_
              first
                | (exfalso; omega)
                | skip
              have e9 : mkF K g old old N S m0 = some (pd, pc, pa, c, m, nr, sm, T) := hs.trans (cdS_e (by omega))
              have e8 : mkE K (mkF K g old old N S m0) = -2 := by rw [e9, mkE_s]; rw [if_pos (by omega)]
              rw [e8] at hE
              exact F_iret hX hE d_Wr_make_211 ⟨rfl, ⟨_, _, ⟨h26, h27⟩, hm, by omega, fun h9 => absurd h9 (by decide)⟩, ⟨_, _, h20⟩, ⟨_, _, h21⟩, ⟨_, _, h22⟩, ⟨_, _, _, _, _, ⟨h23, h24, h25⟩⟩, (Fr.tr (Fr.tr (Fr.tr (Fr.tr Fr.rf k7 (by decide)) k10 (by decide)) k14 (by decide)) k17 (by decide))⟩
            · skip
              refine G_aload_n hX 0 rfl rfl d_Wr_make_199 ?_
              refine F_get hX fg_Wr_24 d_Wr_make_200 53 (by decide) h56 rfl ?_
              refine F_callV hX (st := []) (c_Cu_left E f16 57 7 700 g pa (kA K) (by decide) (by decide) (by decide) h22 h57 (by omega)) cm_Cu_left im_Cu_left se_Cu_left rfl ml_Wr_68 d_Wr_make_203 (by decide) h22 rfl rfl (Nat.le_of_ble_eq_true rfl) (by decide) ?_
              rintro _ f72 ⟨rfl, e75⟩
              obtain rfl := e75.symm
              refine G_cast (st' := [.int (zI ((kA K) - pa))]) ?_ rfl rfl rfl rfl
              refine G_if_le_z hX (tgt := 212) d_Wr_make_206 rfl (by omega) (fun c76 => ?_) (fun c77 => ?_)
              · skip
                refine G_aload_n hX 0 rfl rfl d_Wr_make_212 ?_
                refine F_get hX fg_Wr_61 d_Wr_make_213 53 (by decide) h56 rfl ?_
                refine G_if_eq_z hX (tgt := 250) d_Wr_make_216 rfl (by omega) (fun c78 => ?_) (fun c79 => ?_)
                · skip
                  refine G_iconst hX d_Wr_make_250 ?_
                  first
                    | (exfalso; omega)
                    | skip
                  have e9 : mkF K g old old N S m0 = some (pd, pc, pa, c, m, nr, sm, T) := hs.trans (cdS_e (by omega))
                  have e8 : mkE K (mkF K g old old N S m0) = 0 := by rw [e9, mkE_s]; rw [if_neg (by omega), if_neg (fun hq => by first | exact absurd hq.1 (by omega) | exact hq.2 heq)]
                  rw [e8] at hE
                  exact F_iret hX hE d_Wr_make_251 ⟨rfl, ⟨_, _, ⟨h26, h27⟩, hm, by omega, fun _ => ⟨by rw [e9]; rfl, by omega⟩⟩, ⟨_, _, h20⟩, ⟨_, _, h21⟩, ⟨_, _, h22⟩, ⟨_, _, _, _, _, ⟨h23, h24, h25⟩⟩, (Fr.tr (Fr.tr (Fr.tr (Fr.tr Fr.rf k7 (by decide)) k10 (by decide)) k14 (by decide)) k17 (by decide))⟩
                · skip
                  refine G_aload_n hX 0 rfl rfl d_Wr_make_219 ?_
                  refine F_get hX fg_Wr_39 d_Wr_make_220 53 (by decide) h56 rfl ?_
                  refine F_get hX fg_Wr_108 d_Wr_make_223 47 (by decide) h26 rfl ?_
                  refine G_aload_n hX 0 rfl rfl d_Wr_make_226 ?_
                  refine F_get hX fg_Wr_50 d_Wr_make_227 53 (by decide) h56 rfl ?_
                  refine G_aload_n hX 0 rfl rfl d_Wr_make_230 ?_
                  refine F_get hX fg_Wr_82 d_Wr_make_231 53 (by decide) h56 rfl ?_
                  refine F_callSN hX (st := []) (host := "DeltaFerry") (c_Df_checkOf E f16 48 1536 m (kT K) (kZ K) (by decide) h27 hm (by omega)) cm_Df_checkOf sm_Df_checkOf (by decide +kernel) d_Wr_make_234 rfl rfl (Nat.le_of_ble_eq_true rfl) (by decide) ?_
                  rintro _ f80 ⟨rfl, e83⟩
                  obtain rfl := e83.symm
                  refine G_cast (st' := [.long (zL (adV m (kT K) (kZ K)))]) ?_ rfl rfl rfl rfl
                  refine G_aload_n hX 0 rfl rfl d_Wr_make_237 ?_
                  refine F_get hX fg_Wr_96 d_Wr_make_238 53 (by decide) h56 rfl ?_
                  refine G_lcmp hX d_Wr_make_241 ?_
                  have had := adS_b m (kT K) (kZ K).toNat
                  have had2 : 0 ≤ adV m (kT K) (kZ K) ∧ adV m (kT K) (kZ K) < 4294967296 := by unfold adV; omega
                  by_cases heq : adV m (kT K) (kZ K) = kV K
                  · skip
                    refine G_top (show (lg_cmp (zL (adV m (kT K) (kZ K))) (zL (kV K))) = zI 0 from by rw [heq]; exact (lg_cmp_eq _ _).mpr rfl) ?_
                    refine G_if_eq_z hX (tgt := 250) d_Wr_make_242 rfl (by omega) (fun c84 => ?_) (fun c85 => by exfalso; omega)
                    refine G_iconst hX d_Wr_make_250 ?_
                    first
                      | (exfalso; omega)
                      | skip
                    have e9 : mkF K g old old N S m0 = some (pd, pc, pa, c, m, nr, sm, T) := hs.trans (cdS_e (by omega))
                    have e8 : mkE K (mkF K g old old N S m0) = 0 := by rw [e9, mkE_s]; rw [if_neg (by omega), if_neg (fun hq => by first | exact absurd hq.1 (by omega) | exact hq.2 heq)]
                    rw [e8] at hE
                    exact F_iret hX hE d_Wr_make_251 ⟨rfl, ⟨_, _, ⟨h26, h27⟩, hm, by omega, fun _ => ⟨by rw [e9]; rfl, by omega⟩⟩, ⟨_, _, h20⟩, ⟨_, _, h21⟩, ⟨_, _, h22⟩, ⟨_, _, _, _, _, ⟨h23, h24, h25⟩⟩, (Fr.tr (Fr.tr (Fr.tr (Fr.tr Fr.rf k7 (by decide)) k10 (by decide)) k14 (by decide)) k17 (by decide))⟩
                  · skip
                    have hne : adV m (kT K) (kZ K) ≠ kV K := heq
                    refine G_if_eq hX (tgt := 250) d_Wr_make_242 rfl (fun c86 => by exact absurd ((zL_eq (by omega)).mp ((lg_cmp_eq _ _).mp ‹lg_cmp _ _ = 0›)) heq) (fun c87 => ?_)
                    refine G_bipush hX (by decide) d_Wr_make_245 ?_
                    refine G_goto hX (tgt := 251) d_Wr_make_247 rfl ?_
                    first
                      | (exfalso; omega)
                      | skip
                    have e9 : mkF K g old old N S m0 = some (pd, pc, pa, c, m, nr, sm, T) := hs.trans (cdS_e (by omega))
                    have e8 : mkE K (mkF K g old old N S m0) = -6 := by rw [e9, mkE_s]; rw [if_neg (by omega), if_pos ⟨by omega, hne⟩]
                    rw [e8] at hE
                    exact F_iret hX hE d_Wr_make_251 ⟨rfl, ⟨_, _, ⟨h26, h27⟩, hm, by omega, fun h9 => absurd h9 (by decide)⟩, ⟨_, _, h20⟩, ⟨_, _, h21⟩, ⟨_, _, h22⟩, ⟨_, _, _, _, _, ⟨h23, h24, h25⟩⟩, (Fr.tr (Fr.tr (Fr.tr (Fr.tr Fr.rf k7 (by decide)) k10 (by decide)) k14 (by decide)) k17 (by decide))⟩
              · skip
                refine G_bipush hX (by decide) d_Wr_make_209 ?_
                first
                  | (exfalso; omega)
                  | skip
                have e9 : mkF K g old old N S m0 = some (pd, pc, pa, c, m, nr, sm, T) := hs.trans (cdS_e (by omega))
                have e8 : mkE K (mkF K g old old N S m0) = -2 := by rw [e9, mkE_s]; rw [if_pos (by omega)]
                rw [e8] at hE
                exact F_iret hX hE d_Wr_make_211 ⟨rfl, ⟨_, _, ⟨h26, h27⟩, hm, by omega, fun h9 => absurd h9 (by decide)⟩, ⟨_, _, h20⟩, ⟨_, _, h21⟩, ⟨_, _, h22⟩, ⟨_, _, _, _, _, ⟨h23, h24, h25⟩⟩, (Fr.tr (Fr.tr (Fr.tr (Fr.tr Fr.rf k7 (by decide)) k10 (by decide)) k14 (by decide)) k17 (by decide))⟩
        · skip
          refine G_aload_n hX 0 rfl rfl d_Wr_make_30 ?_
          refine F_get hX fg_Wr_21 d_Wr_make_31 53 (by decide) h56 rfl ?_
          refine F_callV hX (st := []) (c_Cu_next E f16 56 7 700 g pc (kC K) (by decide) (by decide) (by decide) h21 h57 (by omega)) cm_Cu_next im_Cu_next se_Cu_next rfl ml_Wr_53 d_Wr_make_34 (by decide) h21 rfl rfl (Nat.le_of_ble_eq_true rfl) (by decide) ?_
          rintro _ f88 ⟨rfl, h91, k92⟩
          refine G_cast (st' := [.int (zI (nxV g pc (kC K)))]) ?_ rfl rfl rfl rfl
          have hlt : pc < kC K := by omega
          have h9p : isC E f88 56 7 (pc + 1) (kC K) := by have := h91; rw [nxP_lt hlt] at this; exact this
          refine G_top (show zI (nxV g pc (kC K)) = zI (g pc) from by rw [nxV_lt hlt]) ?_
          have hgp := hB pc
          refine G_istore hX (lv' := [(5, .int (zI (g pc))), (0, .ref (eA E 53)), (1, .ref (eA E 49)), (4, .int (zI i))]) (by decide) rfl d_Wr_make_37 ?_
          refine G_iconst hX d_Wr_make_39 ?_
          refine G_istore hX (lv' := [(6, .int (zI 0)), (5, .int (zI (g pc))), (0, .ref (eA E 53)), (1, .ref (eA E 49)), (4, .int (zI i))]) (by decide) rfl d_Wr_make_40 ?_
          have loop93 : ∀ (q : Nat) (h : Int) (pd1 : Int) (pc1 : Int) (pa1 : Int) (c1 : Int) (m1 : Int → Int) (nr1 : Int → Int) (sm1 : Int → Int) (T1 : Int) (f94 : Nat → va_E), (2 - h).toNat < q → (0 ≤ h ∧ h ≤ 2) → ((0 ≤ pd1 ∧ pd1 ≤ kD K) ∧ (0 ≤ pc1 ∧ pc1 ≤ kC K) ∧ (0 ≤ pa1 ∧ pa1 ≤ kA K) ∧ (kT K ≤ c1 ∧ c1 ≤ kT K + kZ K) ∧ (0 ≤ T1 ∧ T1 < 8)) → (isB m1) → (∀ k, 0 ≤ nr1 k ∧ nr1 k < 100000) → (∀ k, 0 ≤ sm1 k ∧ sm1 k < 100000) → (mkF K g old old N S m0 = hcS K g old old N S (g pc) (700 - (i + 1)).toNat (2 - h).toNat h pd1 pc1 pa1 c1 m1 nr1 sm1 T1) → f94 55 = ob 1 [.ref (eA E 7), .int (zI pd1), .int (zI (kD K))] → f94 56 = ob 1 [.ref (eA E 7), .int (zI pc1), .int (zI (kC K))] → f94 57 = ob 1 [.ref (eA E 7), .int (zI pa1), .int (zI (kA K))] → f94 58 = ob 0 [.ref (eA E 59), .ref (eA E 60), .int (zI N), .int (zI S), .int (zI T1)] → f94 59 = iz E 8 nr1 → f94 60 = iz E 1024 sm1 → f94 47 = ob 6 [.ref (eA E 48), .int (zI c1)] → f94 48 = iz E 1536 m1 → Fr [55, 56, 57, 58, 59, 60, 47, 48] f88 f94 → G E X 0 0 42 [(0, .ref (eA E 53)), (1, .ref (eA E 49)), (4, .int (zI i)), (5, .int (zI (g pc))), (6, .int (zI h))] [] (wl E f94) := by
            intro q
            induction q with
            | zero => intro h pd1 pc1 pa1 c1 m1 nr1 sm1 T1 f94 hms96; exact absurd hms96 (Nat.not_lt_zero _)
            | succ q ih97 =>
              intro h pd1 pc1 pa1 c1 m1 nr1 sm1 T1 f94 hms96 hh hb1 hm1 hnr1 hsm1 hs1 h98 h99 h100 h101 h102 h103 h104 h105 k95
              have hgp2 := hB pc
              refine G_iload hX 4 rfl d_Wr_make_42 ?_
              refine G_iconst hX d_Wr_make_44 ?_
              refine G_icmp_ge_z hX (tgt := 164) d_Wr_make_45 rfl (by omega) (fun c106 => ?_) (fun c107 => ?_)
              · skip
                refine G_iinc_z hX (lv' := [(4, .int (zI (i + 1))), (0, .ref (eA E 53)), (1, .ref (eA E 49)), (5, .int (zI (g pc))), (6, .int (zI h))]) 2 rfl (by decide) rfl d_Wr_make_164 ?_
                refine G_goto hX (tgt := 12) d_Wr_make_167 rfl ?_
                refine G_loc (lv' := [(0, .ref (eA E 53)), (1, .ref (eA E 49)), (4, .int (zI (i + 1)))]) [1, 2, 0] rfl ?_
                exact ih19 (i + 1) pd1 pc1 pa1 c1 m1 nr1 sm1 T1 f94 (by omega) (by omega) (by omega) hm1 hnr1 hsm1 (hs1.trans (hcS_e (by omega))) h98 h99 h100 h101 h102 h103 h104 h105 (Fr.tr (Fr.tr (Fr.tr Fr.rf k17 (by decide)) k92 (by decide)) k95 (by decide))
              · skip
                refine G_sipush hX (by decide) d_Wr_make_48 ?_
                refine G_iload hX 4 rfl d_Wr_make_51 ?_
                refine G_imul_z hX d_Wr_make_53 ?_
                refine G_iload hX 3 rfl d_Wr_make_54 ?_
                refine G_iadd_z hX d_Wr_make_56 ?_
                refine G_istore hX (lv' := [(7, .int (zI ((256 * h) + (g pc)))), (0, .ref (eA E 53)), (1, .ref (eA E 49)), (4, .int (zI i)), (5, .int (zI (g pc))), (6, .int (zI h))]) (by decide) rfl d_Wr_make_57 ?_
                refine G_aload_n hX 2 rfl rfl d_Wr_make_59 ?_
                have h108 : f94 49 = ob 6 [.ref (eA E 50), .int (zI oc)] := (k95 49 (by decide)).trans ((k92 49 (by decide)).trans ((k17 49 (by decide)).trans ((k14 49 (by decide)).trans ((k10 49 (by decide)).trans ((k7 49 (by decide)).trans hO.1)))))
                refine F_get hX fg_Wr_108 d_Wr_make_60 49 (by decide) h108 rfl ?_
                refine G_iload hX 0 rfl d_Wr_make_63 ?_
                have h109 : f94 50 = iz E 1536 old := (k95 50 (by decide)).trans ((k92 50 (by decide)).trans ((k17 50 (by decide)).trans ((k14 50 (by decide)).trans ((k10 50 (by decide)).trans ((k7 50 (by decide)).trans hO.2)))))
                refine F_iald hX d_Wr_make_65 50 (by decide) h109 (by omega) ?_
                have b110 := hoB ((256 * h) + (g pc))
                refine G_istore hX (lv' := [(8, .int (zI (old ((256 * h) + (g pc))))), (7, .int (zI ((256 * h) + (g pc)))), (0, .ref (eA E 53)), (1, .ref (eA E 49)), (4, .int (zI i)), (5, .int (zI (g pc))), (6, .int (zI h))]) (by decide) rfl d_Wr_make_66 ?_
                refine G_iload hX 0 rfl d_Wr_make_68 ?_
                by_cases ht0 : old (256 * h + g pc) = 0
                · skip
                  refine G_if_ne_z hX (tgt := 77) d_Wr_make_70 rfl (by omega) (fun c111 => by exfalso; omega) (fun c112 => ?_)
                  refine G_iconst hX d_Wr_make_73 ?_
                  refine G_goto hX (tgt := 92) d_Wr_make_74 rfl ?_
                  refine G_istore hX (lv' := [(9, .int (zI 0)), (8, .int (zI (old ((256 * h) + (g pc))))), (7, .int (zI ((256 * h) + (g pc)))), (0, .ref (eA E 53)), (1, .ref (eA E 49)), (4, .int (zI i)), (5, .int (zI (g pc))), (6, .int (zI h))]) (by decide) rfl d_Wr_make_92 ?_
                  refine G_iload hX 0 rfl d_Wr_make_94 ?_
                  refine G_if_lt_z hX (tgt := 155) d_Wr_make_96 rfl (by omega) (fun c113 => by exfalso; omega) (fun c114 => ?_)
                  refine G_iload hX 1 rfl d_Wr_make_99 ?_
                  refine G_iconst hX d_Wr_make_101 ?_
                  refine G_icmp_ne_z hX (tgt := 114) d_Wr_make_102 rfl (by omega) (fun c115 => ?_) (fun c116 => by exfalso; omega)
                  refine G_iload hX 1 rfl d_Wr_make_114 ?_
                  refine G_iconst hX d_Wr_make_116 ?_
                  refine G_icmp_ne_z hX (tgt := 129) d_Wr_make_117 rfl (by omega) (fun c117 => ?_) (fun c118 => by exfalso; omega)
                  refine G_iload hX 1 rfl d_Wr_make_129 ?_
                  refine G_iconst hX d_Wr_make_131 ?_
                  refine G_icmp_ne_z hX (tgt := 158) d_Wr_make_132 rfl (by omega) (fun c119 => ?_) (fun c120 => by exfalso; omega)
                  refine G_iinc_z hX (lv' := [(6, .int (zI (h + 1))), (9, .int (zI 0)), (8, .int (zI (old ((256 * h) + (g pc))))), (7, .int (zI ((256 * h) + (g pc)))), (0, .ref (eA E 53)), (1, .ref (eA E 49)), (4, .int (zI i)), (5, .int (zI (g pc)))]) 7 rfl (by decide) rfl d_Wr_make_158 ?_
                  refine G_goto hX (tgt := 42) d_Wr_make_161 rfl ?_
                  have e7 : inS K g old old N S (256 * h + g pc) pd1 pc1 pa1 c1 m1 nr1 sm1 T1 = some (pd1, pc1, pa1, c1, m1, nr1, sm1, T1) := by unfold inS; rw [if_pos (by omega)]
                  refine G_loc (lv' := [(0, .ref (eA E 53)), (1, .ref (eA E 49)), (4, .int (zI i)), (5, .int (zI (g pc))), (6, .int (zI (h + 1)))]) [4, 5, 6, 7, 0] rfl ?_
                  exact ih97 (h + 1) pd1 pc1 pa1 c1 m1 nr1 sm1 T1 f94 (by omega) (by omega) (by omega) hm1 hnr1 hsm1 (hs1.trans (hcS_s (by omega) e7)) h98 h99 h100 h101 h102 h103 h104 h105 (Fr.tr Fr.rf k95 (by decide))
                · skip
                  refine G_if_ne_z hX (tgt := 77) d_Wr_make_70 rfl (by omega) (fun c121 => ?_) (fun c122 => by exfalso; omega)
                  refine G_aload_n hX 2 rfl rfl d_Wr_make_77 ?_
                  refine G_aload_n hX 3 rfl rfl d_Wr_make_78 ?_
                  refine F_get hX fg_Wr_108 d_Wr_make_79 49 (by decide) h108 rfl ?_
                  refine G_sipush hX (by decide) d_Wr_make_82 ?_
                  refine G_iload hX 1 rfl d_Wr_make_85 ?_
                  refine G_iadd_z hX d_Wr_make_87 ?_
                  refine F_iald hX d_Wr_make_88 50 (by decide) h109 (by omega) ?_
                  have b123 := hoB (512 + ((256 * h) + (g pc)))
                  have h124 : f94 53 = ob 9 [.ref (eA E 54), .ref (eA E 55), .ref (eA E 56), .ref (eA E 57), .ref (eA E 58), .ref (eA E 47), .ref (eA E (if kO K = 2 then 47 else 49)), .int (zI (kF K)), .int (zI (kS K)), .int (zI (kT K)), .int (zI (kZ K)), .int (zI (kK K)), .long (zL (kV K))] := (k95 53 (by decide)).trans ((k92 53 (by decide)).trans h56)
                  have h125 : f94 7 = iz E 700 g := (k95 7 (by decide)).trans ((k92 7 (by decide)).trans h57)
                  refine F_callV hX (st := []) (c_Wr_readSizeT E f94 K g m1 pc1 c1 (old (512 + ((256 * h) + (g pc)))) h124 h125 hB ⟨h104, h105⟩ hm1 (by omega) h99 (by omega) (by omega)) cm_Wr_readSize im_Wr_readSize se_Wr_readSize rfl ml_Wr_109 d_Wr_make_89 (by decide) h124 rfl rfl (Nat.le_of_ble_eq_true rfl) (by decide) ?_
                  rintro _ f126 ⟨rfl, h129, k130⟩
                  refine G_cast (st' := [.int (zI (if (szR g (kC K) (old (512 + ((256 * h) + (g pc)))) pc1).1 ≤ kT K + kZ K - c1 then (szR g (kC K) (old (512 + ((256 * h) + (g pc)))) pc1).1 else -1))]) ?_ rfl rfl rfl rfl
                  have hsb := szR_b (g := g) (e := kC K) (ic := old (512 + ((256 * h) + (g pc)))) (pc := pc1) hB (by omega) (by omega)
                  by_cases hsz : 0 ≤ (szR g (kC K) (old (512 + ((256 * h) + (g pc)))) pc1).1 ∧ (szR g (kC K) (old (512 + ((256 * h) + (g pc)))) pc1).1 ≤ kT K + kZ K - c1
                  · skip
                    refine G_top (show zI (if (szR g (kC K) (old (512 + ((256 * h) + (g pc)))) pc1).1 ≤ kT K + kZ K - c1 then (szR g (kC K) (old (512 + ((256 * h) + (g pc)))) pc1).1 else -1) = zI ((szR g (kC K) (old (512 + ((256 * h) + (g pc)))) pc1).1) from by rw [if_pos (by omega)]) ?_
                    have ht3b := ht3 (256 * h + g pc) (by omega) (by omega)
                    by_cases hty : old (256 * h + g pc) = 1
                    · skip
                      refine G_istore hX (lv' := [(9, .int (zI ((szR g (kC K) (old (512 + ((256 * h) + (g pc)))) pc1).1))), (8, .int (zI (old ((256 * h) + (g pc))))), (7, .int (zI ((256 * h) + (g pc)))), (0, .ref (eA E 53)), (1, .ref (eA E 49)), (4, .int (zI i)), (5, .int (zI (g pc))), (6, .int (zI h))]) (by decide) rfl d_Wr_make_92 ?_
                      refine G_iload hX 0 rfl d_Wr_make_94 ?_
                      refine G_if_lt_z hX (tgt := 155) d_Wr_make_96 rfl (by omega) (fun c131 => by exfalso; omega) (fun c132 => ?_)
                      refine G_iload hX 1 rfl d_Wr_make_99 ?_
                      refine G_iconst hX d_Wr_make_101 ?_
                      refine G_icmp_ne_z hX (tgt := 114) d_Wr_make_102 rfl (by omega) (fun c133 => by exfalso; omega) (fun c134 => ?_)
                      refine G_aload_n hX 3 rfl rfl d_Wr_make_105 ?_
                      refine G_iload hX 0 rfl d_Wr_make_106 ?_
                      have h135 : f126 53 = ob 9 [.ref (eA E 54), .ref (eA E 55), .ref (eA E 56), .ref (eA E 57), .ref (eA E 58), .ref (eA E 47), .ref (eA E (if kO K = 2 then 47 else 49)), .int (zI (kF K)), .int (zI (kS K)), .int (zI (kT K)), .int (zI (kZ K)), .int (zI (kK K)), .long (zL (kV K))] := (k130 53 (by decide)).trans h124
                      have h136 : f126 55 = ob 1 [.ref (eA E 7), .int (zI pd1), .int (zI (kD K))] := (k130 55 (by decide)).trans h98
                      have h137 : f126 57 = ob 1 [.ref (eA E 7), .int (zI pa1), .int (zI (kA K))] := (k130 57 (by decide)).trans h100
                      have h138 : f126 47 = ob 6 [.ref (eA E 48), .int (zI c1)] := (k130 47 (by decide)).trans h104
                      have h139 : f126 48 = iz E 1536 m1 := (k130 48 (by decide)).trans h105
                      have h140 : f126 59 = iz E 8 nr1 := (k130 59 (by decide)).trans h102
                      have h141 : f126 60 = iz E 1024 sm1 := (k130 60 (by decide)).trans h103
                      have h142 : f126 58 = ob 0 [.ref (eA E 59), .ref (eA E 60), .int (zI N), .int (zI S), .int (zI T1)] := (k130 58 (by decide)).trans h101
                      have h143 : f126 7 = iz E 700 g := (k130 7 (by decide)).trans h125
                      have h144 : f126 49 = ob 6 [.ref (eA E 50), .int (zI oc)] := (k130 49 (by decide)).trans h108
                      have h145 : f126 50 = iz E 1536 old := (k130 50 (by decide)).trans h109
                      refine F_callV hX (st := []) (c_Wr_makeAddT E f126 K g m1 pd1 c1 ((szR g (kC K) (old (512 + ((256 * h) + (g pc)))) pc1).1) h135 h143 hB ⟨h138, h139⟩ hm1 (by omega) h136 (by omega) (by omega)) cm_Wr_makeAdd im_Wr_makeAdd se_Wr_makeAdd rfl ml_Wr_113 d_Wr_make_108 (by decide) h135 rfl rfl (Nat.le_of_ble_eq_true rfl) (by decide) ?_
                      rintro _ f146 (⟨h9, rfl, ⟨h9a, h9b⟩, h9c, k9⟩ | ⟨h9, rfl, h9e⟩)
                      · skip
                        refine G_cast (st' := [.int (zI 1)]) ?_ rfl rfl rfl rfl
                        refine G_if_eq_z hX (tgt := 155) d_Wr_make_111 rfl (by omega) (fun c151 => by exfalso; omega) (fun c152 => ?_)
                        refine G_iload hX 1 rfl d_Wr_make_114 ?_
                        refine G_iconst hX d_Wr_make_116 ?_
                        refine G_icmp_ne_z hX (tgt := 129) d_Wr_make_117 rfl (by omega) (fun c153 => ?_) (fun c154 => by exfalso; omega)
                        refine G_iload hX 1 rfl d_Wr_make_129 ?_
                        refine G_iconst hX d_Wr_make_131 ?_
                        refine G_icmp_ne_z hX (tgt := 158) d_Wr_make_132 rfl (by omega) (fun c155 => ?_) (fun c156 => by exfalso; omega)
                        refine G_iinc_z hX (lv' := [(6, .int (zI (h + 1))), (9, .int (zI ((szR g (kC K) (old (512 + ((256 * h) + (g pc)))) pc1).1))), (8, .int (zI (old ((256 * h) + (g pc))))), (7, .int (zI ((256 * h) + (g pc)))), (0, .ref (eA E 53)), (1, .ref (eA E 49)), (4, .int (zI i)), (5, .int (zI (g pc)))]) 7 rfl (by decide) rfl d_Wr_make_158 ?_
                        refine G_goto hX (tgt := 42) d_Wr_make_161 rfl ?_
                        have h157 : f146 56 = ob 1 [.ref (eA E 7), .int (zI ((szR g (kC K) (old (512 + ((256 * h) + (g pc)))) pc1).2)), .int (zI (kC K))] := (k9 56 (by decide)).trans h129
                        have h158 : f146 57 = ob 1 [.ref (eA E 7), .int (zI pa1), .int (zI (kA K))] := (k9 57 (by decide)).trans h137
                        have h159 : f146 59 = iz E 8 nr1 := (k9 59 (by decide)).trans h140
                        have h160 : f146 60 = iz E 1024 sm1 := (k9 60 (by decide)).trans h141
                        have h161 : f146 58 = ob 0 [.ref (eA E 59), .ref (eA E 60), .int (zI N), .int (zI S), .int (zI T1)] := (k9 58 (by decide)).trans h142
                        have e7 : inS K g old old N S (256 * h + g pc) pd1 pc1 pa1 c1 m1 nr1 sm1 T1 = some (pd1 + (szR g (kC K) (old (512 + ((256 * h) + (g pc)))) pc1).1, (szR g (kC K) (old (512 + ((256 * h) + (g pc)))) pc1).2, pa1, c1 + (szR g (kC K) (old (512 + ((256 * h) + (g pc)))) pc1).1, cz g m1 pd1 c1 ((szR g (kC K) (old (512 + ((256 * h) + (g pc)))) pc1).1), nr1, sm1, T1) := by unfold inS; rw [if_neg (by omega), if_neg (by omega), if_pos (by omega), if_neg (by omega)]
                        refine G_loc (lv' := [(0, .ref (eA E 53)), (1, .ref (eA E 49)), (4, .int (zI i)), (5, .int (zI (g pc))), (6, .int (zI (h + 1)))]) [4, 5, 6, 7, 0] rfl ?_
                        exact ih97 (h + 1) (pd1 + (szR g (kC K) (old (512 + ((256 * h) + (g pc)))) pc1).1) ((szR g (kC K) (old (512 + ((256 * h) + (g pc)))) pc1).2) pa1 (c1 + (szR g (kC K) (old (512 + ((256 * h) + (g pc)))) pc1).1) (cz g m1 pd1 c1 ((szR g (kC K) (old (512 + ((256 * h) + (g pc)))) pc1).1)) nr1 sm1 T1 f146 (by omega) (by omega) (by omega) (isB_cz hB hm1) hnr1 hsm1 (hs1.trans (hcS_s (by omega) e7)) h9c h157 h158 h161 h159 h160 h9a h9b (Fr.tr (Fr.tr (Fr.tr Fr.rf k95 (by decide)) k130 (by decide)) k9 (by decide))
                      · skip
                        obtain rfl := h9e.symm
                        refine G_cast (st' := [.int (zI 0)]) ?_ rfl rfl rfl rfl
                        have e7 : inS K g old old N S (256 * h + g pc) pd1 pc1 pa1 c1 m1 nr1 sm1 T1 = none := by unfold inS; rw [if_neg ht0, if_neg (by omega), if_pos (by omega), if_pos (by omega)]
                        have e9 : mkF K g old old N S m0 = none := hs1.trans (hcS_n (by omega) e7)
                        refine G_if_eq_z hX (tgt := 155) d_Wr_make_111 rfl (by omega) (fun c162 => ?_) (fun c163 => by exfalso; omega)
                        refine G_bipush hX (by decide) d_Wr_make_155 ?_
                        have e8 : mkE K (mkF K g old old N S m0) = -2 := by rw [e9]; rfl
                        rw [e8] at hE
                        exact F_iret hX hE d_Wr_make_157 ⟨rfl, ⟨_, _, ⟨h138, h139⟩, hm1, by omega, fun h9 => absurd h9 (by decide)⟩, ⟨_, _, h136⟩, ⟨_, _, h129⟩, ⟨_, _, h137⟩, ⟨_, _, _, _, _, ⟨h142, h140, h141⟩⟩, (Fr.tr (Fr.tr (Fr.tr (Fr.tr (Fr.tr (Fr.tr (Fr.tr Fr.rf k7 (by decide)) k10 (by decide)) k14 (by decide)) k17 (by decide)) k92 (by decide)) k95 (by decide)) k130 (by decide))⟩
                    · skip
                      by_cases hty2 : old (256 * h + g pc) = 2
                      · skip
                        refine G_istore hX (lv' := [(9, .int (zI ((szR g (kC K) (old (512 + ((256 * h) + (g pc)))) pc1).1))), (8, .int (zI (old ((256 * h) + (g pc))))), (7, .int (zI ((256 * h) + (g pc)))), (0, .ref (eA E 53)), (1, .ref (eA E 49)), (4, .int (zI i)), (5, .int (zI (g pc))), (6, .int (zI h))]) (by decide) rfl d_Wr_make_92 ?_
                        refine G_iload hX 0 rfl d_Wr_make_94 ?_
                        refine G_if_lt_z hX (tgt := 155) d_Wr_make_96 rfl (by omega) (fun c164 => by exfalso; omega) (fun c165 => ?_)
                        refine G_iload hX 1 rfl d_Wr_make_99 ?_
                        refine G_iconst hX d_Wr_make_101 ?_
                        refine G_icmp_ne_z hX (tgt := 114) d_Wr_make_102 rfl (by omega) (fun c166 => ?_) (fun c167 => by exfalso; omega)
                        refine G_iload hX 1 rfl d_Wr_make_114 ?_
                        refine G_iconst hX d_Wr_make_116 ?_
                        refine G_icmp_ne_z hX (tgt := 129) d_Wr_make_117 rfl (by omega) (fun c168 => by exfalso; omega) (fun c169 => ?_)
                        refine G_aload_n hX 3 rfl rfl d_Wr_make_120 ?_
                        refine G_iload hX 0 rfl d_Wr_make_121 ?_
                        have h170 : f126 53 = ob 9 [.ref (eA E 54), .ref (eA E 55), .ref (eA E 56), .ref (eA E 57), .ref (eA E 58), .ref (eA E 47), .ref (eA E (if kO K = 2 then 47 else 49)), .int (zI (kF K)), .int (zI (kS K)), .int (zI (kT K)), .int (zI (kZ K)), .int (zI (kK K)), .long (zL (kV K))] := (k130 53 (by decide)).trans h124
                        have h171 : f126 55 = ob 1 [.ref (eA E 7), .int (zI pd1), .int (zI (kD K))] := (k130 55 (by decide)).trans h98
                        have h172 : f126 57 = ob 1 [.ref (eA E 7), .int (zI pa1), .int (zI (kA K))] := (k130 57 (by decide)).trans h100
                        have h173 : f126 47 = ob 6 [.ref (eA E 48), .int (zI c1)] := (k130 47 (by decide)).trans h104
                        have h174 : f126 48 = iz E 1536 m1 := (k130 48 (by decide)).trans h105
                        have h175 : f126 59 = iz E 8 nr1 := (k130 59 (by decide)).trans h102
                        have h176 : f126 60 = iz E 1024 sm1 := (k130 60 (by decide)).trans h103
                        have h177 : f126 58 = ob 0 [.ref (eA E 59), .ref (eA E 60), .int (zI N), .int (zI S), .int (zI T1)] := (k130 58 (by decide)).trans h101
                        have h178 : f126 7 = iz E 700 g := (k130 7 (by decide)).trans h125
                        have h179 : f126 49 = ob 6 [.ref (eA E 50), .int (zI oc)] := (k130 49 (by decide)).trans h108
                        have h180 : f126 50 = iz E 1536 old := (k130 50 (by decide)).trans h109
                        refine F_callV hX (st := []) (c_Wr_makeRunT E f126 K g m1 pd1 c1 ((szR g (kC K) (old (512 + ((256 * h) + (g pc)))) pc1).1) h170 h178 hB ⟨h173, h174⟩ hm1 (by omega) h171 (by omega) (by omega)) cm_Wr_makeRun im_Wr_makeRun se_Wr_makeRun rfl ml_Wr_117 d_Wr_make_123 (by decide) h170 rfl rfl (Nat.le_of_ble_eq_true rfl) (by decide) ?_
                        rintro _ f181 (⟨h9, rfl, ⟨h9a, h9b⟩, h9c, k9⟩ | ⟨h9, rfl, h9c, k9⟩)
                        · skip
                          refine G_cast (st' := [.int (zI 1)]) ?_ rfl rfl rfl rfl
                          refine G_if_eq_z hX (tgt := 155) d_Wr_make_126 rfl (by omega) (fun c186 => by exfalso; omega) (fun c187 => ?_)
                          refine G_iload hX 1 rfl d_Wr_make_129 ?_
                          refine G_iconst hX d_Wr_make_131 ?_
                          refine G_icmp_ne_z hX (tgt := 158) d_Wr_make_132 rfl (by omega) (fun c188 => ?_) (fun c189 => by exfalso; omega)
                          refine G_iinc_z hX (lv' := [(6, .int (zI (h + 1))), (9, .int (zI ((szR g (kC K) (old (512 + ((256 * h) + (g pc)))) pc1).1))), (8, .int (zI (old ((256 * h) + (g pc))))), (7, .int (zI ((256 * h) + (g pc)))), (0, .ref (eA E 53)), (1, .ref (eA E 49)), (4, .int (zI i)), (5, .int (zI (g pc)))]) 7 rfl (by decide) rfl d_Wr_make_158 ?_
                          refine G_goto hX (tgt := 42) d_Wr_make_161 rfl ?_
                          have h190 : f181 56 = ob 1 [.ref (eA E 7), .int (zI ((szR g (kC K) (old (512 + ((256 * h) + (g pc)))) pc1).2)), .int (zI (kC K))] := (k9 56 (by decide)).trans h129
                          have h191 : f181 57 = ob 1 [.ref (eA E 7), .int (zI pa1), .int (zI (kA K))] := (k9 57 (by decide)).trans h172
                          have h192 : f181 59 = iz E 8 nr1 := (k9 59 (by decide)).trans h175
                          have h193 : f181 60 = iz E 1024 sm1 := (k9 60 (by decide)).trans h176
                          have h194 : f181 58 = ob 0 [.ref (eA E 59), .ref (eA E 60), .int (zI N), .int (zI S), .int (zI T1)] := (k9 58 (by decide)).trans h177
                          have e7 : inS K g old old N S (256 * h + g pc) pd1 pc1 pa1 c1 m1 nr1 sm1 T1 = some (pd1 + 1, (szR g (kC K) (old (512 + ((256 * h) + (g pc)))) pc1).2, pa1, c1 + (szR g (kC K) (old (512 + ((256 * h) + (g pc)))) pc1).1, pz m1 c1 (fun _ => g pd1) ((szR g (kC K) (old (512 + ((256 * h) + (g pc)))) pc1).1), nr1, sm1, T1) := by unfold inS; rw [if_neg (by omega), if_neg (by omega), if_neg (by omega), if_pos (by omega), if_neg (by omega)]
                          refine G_loc (lv' := [(0, .ref (eA E 53)), (1, .ref (eA E 49)), (4, .int (zI i)), (5, .int (zI (g pc))), (6, .int (zI (h + 1)))]) [4, 5, 6, 7, 0] rfl ?_
                          exact ih97 (h + 1) (pd1 + 1) ((szR g (kC K) (old (512 + ((256 * h) + (g pc)))) pc1).2) pa1 (c1 + (szR g (kC K) (old (512 + ((256 * h) + (g pc)))) pc1).1) (pz m1 c1 (fun _ => g pd1) ((szR g (kC K) (old (512 + ((256 * h) + (g pc)))) pc1).1)) nr1 sm1 T1 f181 (by omega) (by omega) (by omega) (isB_pz hm1 (fun _ => hB _)) hnr1 hsm1 (hs1.trans (hcS_s (by omega) e7)) h9c h190 h191 h194 h192 h193 h9a h9b (Fr.tr (Fr.tr (Fr.tr Fr.rf k95 (by decide)) k130 (by decide)) k9 (by decide))
                        · skip
                          refine G_cast (st' := [.int (zI 0)]) ?_ rfl rfl rfl rfl
                          have e7 : inS K g old old N S (256 * h + g pc) pd1 pc1 pa1 c1 m1 nr1 sm1 T1 = none := by unfold inS; rw [if_neg ht0, if_neg (by omega), if_neg (by omega), if_pos (by omega), if_pos (by omega)]
                          have e9 : mkF K g old old N S m0 = none := hs1.trans (hcS_n (by omega) e7)
                          refine G_if_eq_z hX (tgt := 155) d_Wr_make_126 rfl (by omega) (fun c195 => ?_) (fun c196 => by exfalso; omega)
                          refine G_bipush hX (by decide) d_Wr_make_155 ?_
                          have e8 : mkE K (mkF K g old old N S m0) = -2 := by rw [e9]; rfl
                          rw [e8] at hE
                          have h197 : f181 48 = iz E 1536 m1 := (k9 48 (by decide)).trans h174
                          have h198 : f181 47 = ob 6 [.ref (eA E 48), .int (zI c1)] := (k9 47 (by decide)).trans h173
                          have h199 : f181 56 = ob 1 [.ref (eA E 7), .int (zI ((szR g (kC K) (old (512 + ((256 * h) + (g pc)))) pc1).2)), .int (zI (kC K))] := (k9 56 (by decide)).trans h129
                          have h200 : f181 57 = ob 1 [.ref (eA E 7), .int (zI pa1), .int (zI (kA K))] := (k9 57 (by decide)).trans h172
                          have h201 : f181 58 = ob 0 [.ref (eA E 59), .ref (eA E 60), .int (zI N), .int (zI S), .int (zI T1)] := (k9 58 (by decide)).trans h177
                          have h202 : f181 59 = iz E 8 nr1 := (k9 59 (by decide)).trans h175
                          have h203 : f181 60 = iz E 1024 sm1 := (k9 60 (by decide)).trans h176
                          exact F_iret hX hE d_Wr_make_157 ⟨rfl, ⟨_, _, ⟨h198, h197⟩, hm1, by omega, fun h9 => absurd h9 (by decide)⟩, ⟨_, _, h9c⟩, ⟨_, _, h199⟩, ⟨_, _, h200⟩, ⟨_, _, _, _, _, ⟨h201, h202, h203⟩⟩, (Fr.tr (Fr.tr (Fr.tr (Fr.tr (Fr.tr (Fr.tr (Fr.tr (Fr.tr Fr.rf k7 (by decide)) k10 (by decide)) k14 (by decide)) k17 (by decide)) k92 (by decide)) k95 (by decide)) k130 (by decide)) k9 (by decide))⟩
                      · skip
                        refine G_istore hX (lv' := [(9, .int (zI ((szR g (kC K) (old (512 + ((256 * h) + (g pc)))) pc1).1))), (8, .int (zI (old ((256 * h) + (g pc))))), (7, .int (zI ((256 * h) + (g pc)))), (0, .ref (eA E 53)), (1, .ref (eA E 49)), (4, .int (zI i)), (5, .int (zI (g pc))), (6, .int (zI h))]) (by decide) rfl d_Wr_make_92 ?_
                        refine G_iload hX 0 rfl d_Wr_make_94 ?_
                        refine G_if_lt_z hX (tgt := 155) d_Wr_make_96 rfl (by omega) (fun c204 => by exfalso; omega) (fun c205 => ?_)
                        refine G_iload hX 1 rfl d_Wr_make_99 ?_
                        refine G_iconst hX d_Wr_make_101 ?_
                        refine G_icmp_ne_z hX (tgt := 114) d_Wr_make_102 rfl (by omega) (fun c206 => ?_) (fun c207 => by exfalso; omega)
                        refine G_iload hX 1 rfl d_Wr_make_114 ?_
                        refine G_iconst hX d_Wr_make_116 ?_
                        refine G_icmp_ne_z hX (tgt := 129) d_Wr_make_117 rfl (by omega) (fun c208 => ?_) (fun c209 => by exfalso; omega)
                        refine G_iload hX 1 rfl d_Wr_make_129 ?_
                        refine G_iconst hX d_Wr_make_131 ?_
                        refine G_icmp_ne_z hX (tgt := 158) d_Wr_make_132 rfl (by omega) (fun c210 => by exfalso; omega) (fun c211 => ?_)
                        refine G_aload_n hX 3 rfl rfl d_Wr_make_135 ?_
                        refine G_iload hX 0 rfl d_Wr_make_136 ?_
                        refine G_aload_n hX 4 rfl rfl d_Wr_make_138 ?_
                        have h212 : f126 49 = ob 6 [.ref (eA E 50), .int (zI oc)] := (k130 49 (by decide)).trans h108
                        refine F_get hX fg_Wr_108 d_Wr_make_139 49 (by decide) h212 rfl ?_
                        refine G_sipush hX (by decide) d_Wr_make_142 ?_
                        refine G_iload hX 2 rfl d_Wr_make_145 ?_
                        refine G_iadd_z hX d_Wr_make_147 ?_
                        have h213 : f126 50 = iz E 1536 old := (k130 50 (by decide)).trans h109
                        refine F_iald hX d_Wr_make_148 50 (by decide) h213 (by omega) ?_
                        have b214 := hoB (1024 + ((256 * h) + (g pc)))
                        have h215 : f126 53 = ob 9 [.ref (eA E 54), .ref (eA E 55), .ref (eA E 56), .ref (eA E 57), .ref (eA E 58), .ref (eA E 47), .ref (eA E (if kO K = 2 then 47 else 49)), .int (zI (kF K)), .int (zI (kS K)), .int (zI (kT K)), .int (zI (kZ K)), .int (zI (kK K)), .long (zL (kV K))] := (k130 53 (by decide)).trans h124
                        have h216 : f126 55 = ob 1 [.ref (eA E 7), .int (zI pd1), .int (zI (kD K))] := (k130 55 (by decide)).trans h98
                        have h217 : f126 57 = ob 1 [.ref (eA E 7), .int (zI pa1), .int (zI (kA K))] := (k130 57 (by decide)).trans h100
                        have h218 : f126 47 = ob 6 [.ref (eA E 48), .int (zI c1)] := (k130 47 (by decide)).trans h104
                        have h219 : f126 48 = iz E 1536 m1 := (k130 48 (by decide)).trans h105
                        have h220 : f126 59 = iz E 8 nr1 := (k130 59 (by decide)).trans h102
                        have h221 : f126 60 = iz E 1024 sm1 := (k130 60 (by decide)).trans h103
                        have h222 : f126 58 = ob 0 [.ref (eA E 59), .ref (eA E 60), .int (zI N), .int (zI S), .int (zI T1)] := (k130 58 (by decide)).trans h101
                        have h223 : f126 7 = iz E 700 g := (k130 7 (by decide)).trans h125
                        have hhb := hrR_b (nr := nr1) (sm := sm1) (N := N) (S := S) (mode := old (1024 + ((256 * h) + (g pc)))) (here := kS K + c1 - kT K) (g := g) (pa := pa1) (e := kA K) hB (by omega)
                        refine F_callV hX (st := []) (c_Wr_makeCopyT E f126 K g old m1 nr1 sm1 pa1 c1 oc ((szR g (kC K) (old (512 + ((256 * h) + (g pc)))) pc1).1) (old (1024 + ((256 * h) + (g pc)))) N S T1 h215 h223 hB ⟨h218, h219⟩ hm1 (by omega) h217 (by omega) ⟨h222, h220, h221⟩ (by omega) hsm1 hnr1 ⟨h212, h213⟩ hoB hso (by omega) (by omega)) cm_Wr_makeCopy im_Wr_makeCopy se_Wr_makeCopy rfl ml_Wr_120 d_Wr_make_149 (by decide) h215 rfl rfl (Nat.le_of_ble_eq_true rfl) (by decide) ?_
                        rintro _ f224 (⟨hok, rfl, ⟨h9a, h9b⟩, h9c, ⟨h9d, h9e, h9f⟩, k9⟩ | ⟨hok, rfl, h9c, ⟨h9d, h9e, h9f⟩, k9⟩)
                        · skip
                          have hok1 := hok.1
                          have hok2 := hok.2
                          have hrt := rmT_b (N := N) (T := T1) (by omega) (by omega)
                          refine G_cast (st' := [.int (zI 1)]) ?_ rfl rfl rfl rfl
                          refine G_if_ne_z hX (tgt := 158) d_Wr_make_152 rfl (by omega) (fun c229 => ?_) (fun c230 => by exfalso; omega)
                          refine G_iinc_z hX (lv' := [(6, .int (zI (h + 1))), (9, .int (zI ((szR g (kC K) (old (512 + ((256 * h) + (g pc)))) pc1).1))), (8, .int (zI (old ((256 * h) + (g pc))))), (7, .int (zI ((256 * h) + (g pc)))), (0, .ref (eA E 53)), (1, .ref (eA E 49)), (4, .int (zI i)), (5, .int (zI (g pc)))]) 7 rfl (by decide) rfl d_Wr_make_158 ?_
                          refine G_goto hX (tgt := 42) d_Wr_make_161 rfl ?_
                          have h231 : f224 55 = ob 1 [.ref (eA E 7), .int (zI pd1), .int (zI (kD K))] := (k9 55 (by decide)).trans h216
                          have h232 : f224 56 = ob 1 [.ref (eA E 7), .int (zI ((szR g (kC K) (old (512 + ((256 * h) + (g pc)))) pc1).2)), .int (zI (kC K))] := (k9 56 (by decide)).trans h129
                          have e7 : inS K g old old N S (256 * h + g pc) pd1 pc1 pa1 c1 m1 nr1 sm1 T1 = some (pd1, (szR g (kC K) (old (512 + ((256 * h) + (g pc)))) pc1).2, (hrR nr1 sm1 N S (old (1024 + ((256 * h) + (g pc)))) (kS K + c1 - kT K) g pa1 (kA K)).2, c1 + (szR g (kC K) (old (512 + ((256 * h) + (g pc)))) pc1).1, cpL K old ((szR g (kC K) (old (512 + ((256 * h) + (g pc)))) pc1).1).toNat (hrR nr1 sm1 N S (old (1024 + ((256 * h) + (g pc)))) (kS K + c1 - kT K) g pa1 (kA K)).1 m1 c1, rmN nr1 N T1 (hrR nr1 sm1 N S (old (1024 + ((256 * h) + (g pc)))) (kS K + c1 - kT K) g pa1 (kA K)).1, rmS sm1 S (hrR nr1 sm1 N S (old (1024 + ((256 * h) + (g pc)))) (kS K + c1 - kT K) g pa1 (kA K)).1, rmT N T1) := by unfold inS; rw [if_neg (by omega), if_neg (by omega), if_neg (by omega), if_neg (by omega), if_pos hok]
                          refine G_loc (lv' := [(0, .ref (eA E 53)), (1, .ref (eA E 49)), (4, .int (zI i)), (5, .int (zI (g pc))), (6, .int (zI (h + 1)))]) [4, 5, 6, 7, 0] rfl ?_
                          exact ih97 (h + 1) pd1 ((szR g (kC K) (old (512 + ((256 * h) + (g pc)))) pc1).2) ((hrR nr1 sm1 N S (old (1024 + ((256 * h) + (g pc)))) (kS K + c1 - kT K) g pa1 (kA K)).2) (c1 + (szR g (kC K) (old (512 + ((256 * h) + (g pc)))) pc1).1) (cpL K old ((szR g (kC K) (old (512 + ((256 * h) + (g pc)))) pc1).1).toNat (hrR nr1 sm1 N S (old (1024 + ((256 * h) + (g pc)))) (kS K + c1 - kT K) g pa1 (kA K)).1 m1 c1) (rmN nr1 N T1 (hrR nr1 sm1 N S (old (1024 + ((256 * h) + (g pc)))) (kS K + c1 - kT K) g pa1 (kA K)).1) (rmS sm1 S (hrR nr1 sm1 N S (old (1024 + ((256 * h) + (g pc)))) (kS K + c1 - kT K) g pa1 (kA K)).1) (rmT N T1) f224 (by omega) (by omega) (by omega) (isB_cp hoB _ _ _ _ hm1) (rmN_b hnr1 (by omega)) (rmS_b hsm1 (by omega)) (hs1.trans (hcS_s (by omega) e7)) h231 h232 h9c h9d h9e h9f h9a h9b (Fr.tr (Fr.tr (Fr.tr Fr.rf k95 (by decide)) k130 (by decide)) k9 (by decide))
                        · skip
                          refine G_cast (st' := [.int (zI 0)]) ?_ rfl rfl rfl rfl
                          have e7 : inS K g old old N S (256 * h + g pc) pd1 pc1 pa1 c1 m1 nr1 sm1 T1 = none := by unfold inS; rw [if_neg ht0, if_neg (by omega), if_neg (by omega), if_neg (by omega), if_neg hok]
                          have e9 : mkF K g old old N S m0 = none := hs1.trans (hcS_n (by omega) e7)
                          refine G_if_ne_z hX (tgt := 158) d_Wr_make_152 rfl (by omega) (fun c233 => by exfalso; omega) (fun c234 => ?_)
                          refine G_bipush hX (by decide) d_Wr_make_155 ?_
                          have e8 : mkE K (mkF K g old old N S m0) = -2 := by rw [e9]; rfl
                          rw [e8] at hE
                          have h235 : f224 48 = iz E 1536 m1 := (k9 48 (by decide)).trans h219
                          have h236 : f224 47 = ob 6 [.ref (eA E 48), .int (zI c1)] := (k9 47 (by decide)).trans h218
                          have h237 : f224 55 = ob 1 [.ref (eA E 7), .int (zI pd1), .int (zI (kD K))] := (k9 55 (by decide)).trans h216
                          have h238 : f224 56 = ob 1 [.ref (eA E 7), .int (zI ((szR g (kC K) (old (512 + ((256 * h) + (g pc)))) pc1).2)), .int (zI (kC K))] := (k9 56 (by decide)).trans h129
                          exact F_iret hX hE d_Wr_make_157 ⟨rfl, ⟨_, _, ⟨h236, h235⟩, hm1, by omega, fun h9 => absurd h9 (by decide)⟩, ⟨_, _, h237⟩, ⟨_, _, h238⟩, ⟨_, _, h9c⟩, ⟨_, _, _, _, _, ⟨h9d, h9e, h9f⟩⟩, (Fr.tr (Fr.tr (Fr.tr (Fr.tr (Fr.tr (Fr.tr (Fr.tr (Fr.tr Fr.rf k7 (by decide)) k10 (by decide)) k14 (by decide)) k17 (by decide)) k92 (by decide)) k95 (by decide)) k130 (by decide)) k9 (by decide))⟩
                  · skip
                    obtain ⟨z239, hz239⟩ : ∃ z, (if (szR g (kC K) (old (512 + ((256 * h) + (g pc)))) pc1).1 ≤ kT K + kZ K - c1 then (szR g (kC K) (old (512 + ((256 * h) + (g pc)))) pc1).1 else -1) = z := ⟨_, rfl⟩
                    have hz239n : z239 < 0 := by rw [← hz239]; split <;> omega
                    refine G_top (show zI (if (szR g (kC K) (old (512 + ((256 * h) + (g pc)))) pc1).1 ≤ kT K + kZ K - c1 then (szR g (kC K) (old (512 + ((256 * h) + (g pc)))) pc1).1 else -1) = zI z239 from by rw [hz239]) ?_
                    have e7 : inS K g old old N S (256 * h + g pc) pd1 pc1 pa1 c1 m1 nr1 sm1 T1 = none := by unfold inS; rw [if_neg ht0, if_pos (by omega)]
                    have e9 : mkF K g old old N S m0 = none := hs1.trans (hcS_n (by omega) e7)
                    refine G_istore hX (lv' := [(9, .int (zI z239)), (8, .int (zI (old ((256 * h) + (g pc))))), (7, .int (zI ((256 * h) + (g pc)))), (0, .ref (eA E 53)), (1, .ref (eA E 49)), (4, .int (zI i)), (5, .int (zI (g pc))), (6, .int (zI h))]) (by decide) rfl d_Wr_make_92 ?_
                    refine G_iload hX 0 rfl d_Wr_make_94 ?_
                    refine G_if_lt_z hX (tgt := 155) d_Wr_make_96 rfl (by omega) (fun c240 => ?_) (fun c241 => by exfalso; omega)
                    refine G_bipush hX (by decide) d_Wr_make_155 ?_
                    have e8 : mkE K (mkF K g old old N S m0) = -2 := by rw [e9]; rfl
                    rw [e8] at hE
                    have h242 : f126 48 = iz E 1536 m1 := (k130 48 (by decide)).trans h105
                    have h243 : f126 47 = ob 6 [.ref (eA E 48), .int (zI c1)] := (k130 47 (by decide)).trans h104
                    have h244 : f126 55 = ob 1 [.ref (eA E 7), .int (zI pd1), .int (zI (kD K))] := (k130 55 (by decide)).trans h98
                    have h245 : f126 57 = ob 1 [.ref (eA E 7), .int (zI pa1), .int (zI (kA K))] := (k130 57 (by decide)).trans h100
                    have h246 : f126 58 = ob 0 [.ref (eA E 59), .ref (eA E 60), .int (zI N), .int (zI S), .int (zI T1)] := (k130 58 (by decide)).trans h101
                    have h247 : f126 59 = iz E 8 nr1 := (k130 59 (by decide)).trans h102
                    have h248 : f126 60 = iz E 1024 sm1 := (k130 60 (by decide)).trans h103
                    exact F_iret hX hE d_Wr_make_157 ⟨rfl, ⟨_, _, ⟨h243, h242⟩, hm1, by omega, fun h9 => absurd h9 (by decide)⟩, ⟨_, _, h244⟩, ⟨_, _, h129⟩, ⟨_, _, h245⟩, ⟨_, _, _, _, _, ⟨h246, h247, h248⟩⟩, (Fr.tr (Fr.tr (Fr.tr (Fr.tr (Fr.tr (Fr.tr (Fr.tr Fr.rf k7 (by decide)) k10 (by decide)) k14 (by decide)) k17 (by decide)) k92 (by decide)) k95 (by decide)) k130 (by decide))⟩
          have h249 : f88 55 = ob 1 [.ref (eA E 7), .int (zI pd), .int (zI (kD K))] := (k92 55 (by decide)).trans h20
          have h250 : f88 57 = ob 1 [.ref (eA E 7), .int (zI pa), .int (zI (kA K))] := (k92 57 (by decide)).trans h22
          have h251 : f88 58 = ob 0 [.ref (eA E 59), .ref (eA E 60), .int (zI N), .int (zI S), .int (zI T)] := (k92 58 (by decide)).trans h23
          have h252 : f88 59 = iz E 8 nr := (k92 59 (by decide)).trans h24
          have h253 : f88 60 = iz E 1024 sm := (k92 60 (by decide)).trans h25
          have h254 : f88 47 = ob 6 [.ref (eA E 48), .int (zI c)] := (k92 47 (by decide)).trans h26
          have h255 : f88 48 = iz E 1536 m := (k92 48 (by decide)).trans h27
          refine G_loc (lv' := [(0, .ref (eA E 53)), (1, .ref (eA E 49)), (4, .int (zI i)), (5, .int (zI (g pc))), (6, .int (zI 0))]) [2, 3, 4, 1, 0] rfl ?_
          exact loop93 (_ + 1) 0 pd (pc + 1) pa c m nr sm T f88 (Nat.lt_succ_self _) (by omega) (by omega) hm hnr hsm (hs.trans (cdS_s (by omega) hlt)) h249 h9p h250 h251 h252 h253 h254 h255 Fr.rf
  have h256 : f12 55 = ob 1 [.ref (eA E 7), .int (zI (kB K)), .int (zI (kD K))] := (k14 55 (by decide)).trans ((k10 55 (by decide)).trans ((k7 55 (by decide)).trans hD))
  have h257 : f12 56 = ob 1 [.ref (eA E 7), .int (zI (kD K)), .int (zI (kC K))] := (k14 56 (by decide)).trans ((k10 56 (by decide)).trans ((k7 56 (by decide)).trans hC))
  have h258 : f12 57 = ob 1 [.ref (eA E 7), .int (zI (kC K)), .int (zI (kA K))] := (k14 57 (by decide)).trans ((k10 57 (by decide)).trans ((k7 57 (by decide)).trans hA))
  have h259 : f12 58 = ob 0 [.ref (eA E 59), .ref (eA E 60), .int (zI N), .int (zI S), .int (zI 0)] := (k14 58 (by decide)).trans ((k10 58 (by decide)).trans h4)
  have h260 : f12 59 = iz E 8 (fun _ => 0) := (k14 59 (by decide)).trans h9
  have h261 : f12 47 = ob 6 [.ref (eA E 48), .int (zI (kT K))] := (k14 47 (by decide)).trans ((k10 47 (by decide)).trans ((k7 47 (by decide)).trans hM.1))
  have h262 : f12 48 = iz E 1536 m0 := (k14 48 (by decide)).trans ((k10 48 (by decide)).trans ((k7 48 (by decide)).trans hM.2))
  refine G_loc (lv' := [(0, .ref (eA E 53)), (1, .ref (eA E 49)), (4, .int (zI 0))]) [1, 2, 0] rfl ?_
  exact loop15 (_ + 1) 0 (kB K) (kD K) (kC K) (kT K) m0 (fun _ => 0) (fun _ => 0) 0 f12 (Nat.lt_succ_self _) (by omega) (by omega) hm0 (fun k => by constructor <;> omega) (fun k => by constructor <;> omega) rfl h256 h257 h258 h259 h260 h13 h261 h262 Fr.rf
