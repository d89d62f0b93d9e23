/-! constructors; printed by wip/tools/m_ci.py -/
theorem df_Ad : ∀ j, j < 5 → defaultValue (ty_Ad j) = vp_V [.null, .null, .int 0, .int 0, .int 0] j := fun j hj => by rcases (show j = 0 ∨ j = 1 ∨ j = 2 ∨ j = 3 ∨ j = 4 by omega) with rfl | rfl | rfl | rfl | rfl <;> rfl
theorem fpf_Ad_0 : FPF "DeltaFerry$AddressRows" 0 0 (.array .int) := ⟨_, Tn_Ad, 5, ty_Ad, rfl, tk_Ad, nm_Ad, rfl, by decide +kernel, rfl⟩
theorem fpf_Ad_1 : FPF "DeltaFerry$AddressRows" 0 1 (.array .int) := ⟨_, Tn_Ad, 5, ty_Ad, rfl, tk_Ad, nm_Ad, rfl, by decide +kernel, rfl⟩
theorem df_Cu : ∀ j, j < 3 → defaultValue (ty_Cu j) = vp_V [.null, .int 0, .int 0] j := fun j hj => by rcases (show j = 0 ∨ j = 1 ∨ j = 2 by omega) with rfl | rfl | rfl <;> rfl
theorem df_Dg : ∀ j, j < 2 → defaultValue (ty_Dg j) = vp_V [.null, .null] j := fun j hj => by rcases (show j = 0 ∨ j = 1 by omega) with rfl | rfl <;> rfl
theorem fpf_Dg_0 : FPF "DeltaFerry$Digester" 2 0 (.array .int) := ⟨_, Tn_Dg, 2, ty_Dg, rfl, tk_Dg, nm_Dg, rfl, by decide +kernel, rfl⟩
theorem fpf_Dg_1 : FPF "DeltaFerry$Digester" 2 1 (.array .int) := ⟨_, Tn_Dg, 2, ty_Dg, rfl, tk_Dg, nm_Dg, rfl, by decide +kernel, rfl⟩
theorem df_Ma : ∀ j, j < 6 → defaultValue (ty_Ma j) = vp_V [.null, .int 0, .int 0, .int 0, .int 0, .int 0] j := fun j hj => by rcases (show j = 0 ∨ j = 1 ∨ j = 2 ∨ j = 3 ∨ j = 4 ∨ j = 5 by omega) with rfl | rfl | rfl | rfl | rfl | rfl <;> rfl
theorem fpf_Ma_0 : FPF "DeltaFerry$Matcher" 3 0 (.array .int) := ⟨_, Tn_Ma, 6, ty_Ma, rfl, tk_Ma, nm_Ma, rfl, by decide +kernel, rfl⟩
theorem df_Pl : ∀ j, j < 8 → defaultValue (ty_Pl j) = vp_V [.null, .null, .null, .null, .int 0, .int 0, .int 0, .int 0] j := fun j hj => by rcases (show j = 0 ∨ j = 1 ∨ j = 2 ∨ j = 3 ∨ j = 4 ∨ j = 5 ∨ j = 6 ∨ j = 7 by omega) with rfl | rfl | rfl | rfl | rfl | rfl | rfl | rfl <;> rfl
theorem fpf_Pl_0 : FPF "DeltaFerry$Plan" 4 0 (.array .int) := ⟨_, Tn_Pl, 8, ty_Pl, rfl, tk_Pl, nm_Pl, rfl, by decide +kernel, rfl⟩
theorem fpf_Pl_1 : FPF "DeltaFerry$Plan" 4 1 (.array .int) := ⟨_, Tn_Pl, 8, ty_Pl, rfl, tk_Pl, nm_Pl, rfl, by decide +kernel, rfl⟩
theorem fpf_Pl_2 : FPF "DeltaFerry$Plan" 4 2 (.array .int) := ⟨_, Tn_Pl, 8, ty_Pl, rfl, tk_Pl, nm_Pl, rfl, by decide +kernel, rfl⟩
theorem fpf_Pl_3 : FPF "DeltaFerry$Plan" 4 3 (.array .int) := ⟨_, Tn_Pl, 8, ty_Pl, rfl, tk_Pl, nm_Pl, rfl, by decide +kernel, rfl⟩
theorem df_Rd : ∀ j, j < 16 → defaultValue (ty_Rd j) = vp_V [.null, .null, .null, .null, .null, .null, .int 0, .int 0, .int 0, .null, .null, .null, .null, .null, .int 0, .int 0] j := fun j hj => by rcases (show j = 0 ∨ j = 1 ∨ j = 2 ∨ j = 3 ∨ j = 4 ∨ j = 5 ∨ j = 6 ∨ j = 7 ∨ j = 8 ∨ j = 9 ∨ j = 10 ∨ j = 11 ∨ j = 12 ∨ j = 13 ∨ j = 14 ∨ j = 15 by omega) with rfl | rfl | rfl | rfl | rfl | rfl | rfl | rfl | rfl | rfl | rfl | rfl | rfl | rfl | rfl | rfl <;> rfl
theorem fpf_Rd_0 : FPF "DeltaFerry$Reader" 5 0 (.object "DeltaFerry$Row") := ⟨_, Tn_Rd, 16, ty_Rd, rfl, tk_Rd, nm_Rd, rfl, by decide +kernel, rfl⟩
theorem fpf_Rd_1 : FPF "DeltaFerry$Reader" 5 1 (.object "DeltaFerry$Row") := ⟨_, Tn_Rd, 16, ty_Rd, rfl, tk_Rd, nm_Rd, rfl, by decide +kernel, rfl⟩
theorem fpf_Rd_2 : FPF "DeltaFerry$Reader" 5 2 (.object "DeltaFerry$Row") := ⟨_, Tn_Rd, 16, ty_Rd, rfl, tk_Rd, nm_Rd, rfl, by decide +kernel, rfl⟩
theorem fpf_Rd_3 : FPF "DeltaFerry$Reader" 5 3 (.object "DeltaFerry$Cursor") := ⟨_, Tn_Rd, 16, ty_Rd, rfl, tk_Rd, nm_Rd, rfl, by decide +kernel, rfl⟩
theorem fpf_Rd_4 : FPF "DeltaFerry$Reader" 5 4 (.object "DeltaFerry$Cursor") := ⟨_, Tn_Rd, 16, ty_Rd, rfl, tk_Rd, nm_Rd, rfl, by decide +kernel, rfl⟩
theorem fpf_Rd_5 : FPF "DeltaFerry$Reader" 5 5 (.object "DeltaFerry$WindowReader") := ⟨_, Tn_Rd, 16, ty_Rd, rfl, tk_Rd, nm_Rd, rfl, by decide +kernel, rfl⟩
theorem df_Ro : ∀ j, j < 2 → defaultValue (ty_Ro j) = vp_V [.null, .int 0] j := fun j hj => by rcases (show j = 0 ∨ j = 1 by omega) with rfl | rfl <;> rfl
theorem fpf_Ro_0 : FPF "DeltaFerry$Row" 6 0 (.array .int) := ⟨_, Tn_Ro, 2, ty_Ro, rfl, tk_Ro, nm_Ro, rfl, by decide +kernel, rfl⟩
theorem df_Sg : ∀ j, j < 8 → defaultValue (ty_Sg j) = vp_V [.null, .null, .null, .null, .null, .int 0, .int 0, .int 0] j := fun j hj => by rcases (show j = 0 ∨ j = 1 ∨ j = 2 ∨ j = 3 ∨ j = 4 ∨ j = 5 ∨ j = 6 ∨ j = 7 by omega) with rfl | rfl | rfl | rfl | rfl | rfl | rfl | rfl <;> rfl
theorem fpf_Sg_0 : FPF "DeltaFerry$Signature" 7 0 (.object "DeltaFerry$Digester") := ⟨_, Tn_Sg, 8, ty_Sg, rfl, tk_Sg, nm_Sg, rfl, by decide +kernel, rfl⟩
theorem fpf_Sg_1 : FPF "DeltaFerry$Signature" 7 1 (.array .long) := ⟨_, Tn_Sg, 8, ty_Sg, rfl, tk_Sg, nm_Sg, rfl, by decide +kernel, rfl⟩
theorem fpf_Sg_2 : FPF "DeltaFerry$Signature" 7 2 (.array .long) := ⟨_, Tn_Sg, 8, ty_Sg, rfl, tk_Sg, nm_Sg, rfl, by decide +kernel, rfl⟩
theorem fpf_Sg_3 : FPF "DeltaFerry$Signature" 7 3 (.array .long) := ⟨_, Tn_Sg, 8, ty_Sg, rfl, tk_Sg, nm_Sg, rfl, by decide +kernel, rfl⟩
theorem fpf_Sg_4 : FPF "DeltaFerry$Signature" 7 4 (.object "DeltaFerry$WeakSum") := ⟨_, Tn_Sg, 8, ty_Sg, rfl, tk_Sg, nm_Sg, rfl, by decide +kernel, rfl⟩
theorem df_Ws : ∀ j, j < 4 → defaultValue (ty_Ws j) = vp_V [.int 0, .int 0, .int 0, .int 0] j := fun j hj => by rcases (show j = 0 ∨ j = 1 ∨ j = 2 ∨ j = 3 by omega) with rfl | rfl | rfl | rfl <;> rfl
theorem df_Wr : ∀ j, j < 13 → defaultValue (ty_Wr j) = vp_V [.null, .null, .null, .null, .null, .null, .null, .int 0, .int 0, .int 0, .int 0, .int 0, .long 0] j := fun j hj => by rcases (show j = 0 ∨ j = 1 ∨ j = 2 ∨ j = 3 ∨ j = 4 ∨ j = 5 ∨ j = 6 ∨ j = 7 ∨ j = 8 ∨ j = 9 ∨ j = 10 ∨ j = 11 ∨ j = 12 by omega) with rfl | rfl | rfl | rfl | rfl | rfl | rfl | rfl | rfl | rfl | rfl | rfl | rfl <;> rfl
theorem fpf_Wr_0 : FPF "DeltaFerry$WindowReader" 9 0 (.object "DeltaFerry$Cursor") := ⟨_, Tn_Wr, 13, ty_Wr, rfl, tk_Wr, nm_Wr, rfl, by decide +kernel, rfl⟩
theorem fpf_Wr_1 : FPF "DeltaFerry$WindowReader" 9 1 (.object "DeltaFerry$Cursor") := ⟨_, Tn_Wr, 13, ty_Wr, rfl, tk_Wr, nm_Wr, rfl, by decide +kernel, rfl⟩
theorem fpf_Wr_2 : FPF "DeltaFerry$WindowReader" 9 2 (.object "DeltaFerry$Cursor") := ⟨_, Tn_Wr, 13, ty_Wr, rfl, tk_Wr, nm_Wr, rfl, by decide +kernel, rfl⟩
theorem fpf_Wr_3 : FPF "DeltaFerry$WindowReader" 9 3 (.object "DeltaFerry$Cursor") := ⟨_, Tn_Wr, 13, ty_Wr, rfl, tk_Wr, nm_Wr, rfl, by decide +kernel, rfl⟩
theorem fpf_Wr_4 : FPF "DeltaFerry$WindowReader" 9 4 (.object "DeltaFerry$AddressRows") := ⟨_, Tn_Wr, 13, ty_Wr, rfl, tk_Wr, nm_Wr, rfl, by decide +kernel, rfl⟩
theorem df_Wt : ∀ j, j < 8 → defaultValue (ty_Wt j) = vp_V [.null, .null, .null, .null, .null, .null, .null, .int 0] j := fun j hj => by rcases (show j = 0 ∨ j = 1 ∨ j = 2 ∨ j = 3 ∨ j = 4 ∨ j = 5 ∨ j = 6 ∨ j = 7 by omega) with rfl | rfl | rfl | rfl | rfl | rfl | rfl | rfl <;> rfl
theorem fpf_Wt_0 : FPF "DeltaFerry$Writer" 10 0 (.object "DeltaFerry$Row") := ⟨_, Tn_Wt, 8, ty_Wt, rfl, tk_Wt, nm_Wt, rfl, by decide +kernel, rfl⟩
theorem fpf_Wt_1 : FPF "DeltaFerry$Writer" 10 1 (.object "DeltaFerry$Row") := ⟨_, Tn_Wt, 8, ty_Wt, rfl, tk_Wt, nm_Wt, rfl, by decide +kernel, rfl⟩
theorem fpf_Wt_2 : FPF "DeltaFerry$Writer" 10 2 (.object "DeltaFerry$Row") := ⟨_, Tn_Wt, 8, ty_Wt, rfl, tk_Wt, nm_Wt, rfl, by decide +kernel, rfl⟩
theorem fpf_Wt_3 : FPF "DeltaFerry$Writer" 10 3 (.object "DeltaFerry$Row") := ⟨_, Tn_Wt, 8, ty_Wt, rfl, tk_Wt, nm_Wt, rfl, by decide +kernel, rfl⟩
theorem fpf_Wt_4 : FPF "DeltaFerry$Writer" 10 4 (.object "DeltaFerry$Row") := ⟨_, Tn_Wt, 8, ty_Wt, rfl, tk_Wt, nm_Wt, rfl, by decide +kernel, rfl⟩
theorem fpf_Wt_5 : FPF "DeltaFerry$Writer" 10 5 (.array .int) := ⟨_, Tn_Wt, 8, ty_Wt, rfl, tk_Wt, nm_Wt, rfl, by decide +kernel, rfl⟩
theorem fpf_Wt_6 : FPF "DeltaFerry$Writer" 10 6 (.object "DeltaFerry$AddressRows") := ⟨_, Tn_Wt, 8, ty_Wt, rfl, tk_Wt, nm_Wt, rfl, by decide +kernel, rfl⟩
theorem df_Df : ∀ j, j < 13 → defaultValue (ty_Df j) = vp_V [.null, .null, .null, .null, .null, .null, .null, .null, .int 0, .int 0, .int 0, .long 0, .long 0] j := fun j hj => by rcases (show j = 0 ∨ j = 1 ∨ j = 2 ∨ j = 3 ∨ j = 4 ∨ j = 5 ∨ j = 6 ∨ j = 7 ∨ j = 8 ∨ j = 9 ∨ j = 10 ∨ j = 11 ∨ j = 12 by omega) with rfl | rfl | rfl | rfl | rfl | rfl | rfl | rfl | rfl | rfl | rfl | rfl | rfl <;> rfl
theorem fpf_Df_0 : FPF "DeltaFerry" 11 0 (.array (.object "DeltaFerry$Row")) := ⟨_, Tn_Df, 13, ty_Df, rfl, tk_Df, nm_Df, rfl, by decide +kernel, rfl⟩
theorem fpf_Df_1 : FPF "DeltaFerry" 11 1 (.object "DeltaFerry$Digester") := ⟨_, Tn_Df, 13, ty_Df, rfl, tk_Df, nm_Df, rfl, by decide +kernel, rfl⟩
theorem fpf_Df_2 : FPF "DeltaFerry" 11 2 (.object "DeltaFerry$WeakSum") := ⟨_, Tn_Df, 13, ty_Df, rfl, tk_Df, nm_Df, rfl, by decide +kernel, rfl⟩
theorem fpf_Df_3 : FPF "DeltaFerry" 11 3 (.object "DeltaFerry$Signature") := ⟨_, Tn_Df, 13, ty_Df, rfl, tk_Df, nm_Df, rfl, by decide +kernel, rfl⟩
theorem fpf_Df_4 : FPF "DeltaFerry" 11 4 (.object "DeltaFerry$Plan") := ⟨_, Tn_Df, 13, ty_Df, rfl, tk_Df, nm_Df, rfl, by decide +kernel, rfl⟩
theorem fpf_Df_5 : FPF "DeltaFerry" 11 5 (.object "DeltaFerry$Matcher") := ⟨_, Tn_Df, 13, ty_Df, rfl, tk_Df, nm_Df, rfl, by decide +kernel, rfl⟩
theorem fpf_Df_6 : FPF "DeltaFerry" 11 6 (.object "DeltaFerry$Writer") := ⟨_, Tn_Df, 13, ty_Df, rfl, tk_Df, nm_Df, rfl, by decide +kernel, rfl⟩
theorem fpf_Df_7 : FPF "DeltaFerry" 11 7 (.object "DeltaFerry$Reader") := ⟨_, Tn_Df, 13, ty_Df, rfl, tk_Df, nm_Df, rfl, by decide +kernel, rfl⟩
theorem df_Mo : ∀ j, j < 51 → defaultValue (ty_Mo j) = vp_V [.null, .null, .null, .null, .long 0, .long 0, .int 0, .int 0, .null, .null, .null, .int 0, .int 0, .int 0, .null, .null, .null, .null, .int 0, .null, .null, .int 0, .null, .null, .null, .int 0, .int 0, .int 0, .null, .null, .int 0, .int 0, .int 0, .null, .int 0, .null, .int 0, .int 0, .null, .int 0, .int 0, .int 0, .int 0, .int 0, .null, .null, .int 0, .int 0, .int 0, .long 0, .long 0] j := fun j hj => by rcases (show j = 0 ∨ j = 1 ∨ j = 2 ∨ j = 3 ∨ j = 4 ∨ j = 5 ∨ j = 6 ∨ j = 7 ∨ j = 8 ∨ j = 9 ∨ j = 10 ∨ j = 11 ∨ j = 12 ∨ j = 13 ∨ j = 14 ∨ j = 15 ∨ j = 16 ∨ j = 17 ∨ j = 18 ∨ j = 19 ∨ j = 20 ∨ j = 21 ∨ j = 22 ∨ j = 23 ∨ j = 24 ∨ j = 25 ∨ j = 26 ∨ j = 27 ∨ j = 28 ∨ j = 29 ∨ j = 30 ∨ j = 31 ∨ j = 32 ∨ j = 33 ∨ j = 34 ∨ j = 35 ∨ j = 36 ∨ j = 37 ∨ j = 38 ∨ j = 39 ∨ j = 40 ∨ j = 41 ∨ j = 42 ∨ j = 43 ∨ j = 44 ∨ j = 45 ∨ j = 46 ∨ j = 47 ∨ j = 48 ∨ j = 49 ∨ j = 50 by omega) with rfl | rfl | rfl | rfl | rfl | rfl | rfl | rfl | rfl | rfl | rfl | rfl | rfl | rfl | rfl | rfl | rfl | rfl | rfl | rfl | rfl | rfl | rfl | rfl | rfl | rfl | rfl | rfl | rfl | rfl | rfl | rfl | rfl | rfl | rfl | rfl | rfl | rfl | rfl | rfl | rfl | rfl | rfl | rfl | rfl | rfl | rfl | rfl | rfl | rfl | rfl <;> rfl
theorem fpf_Mo_0 : FPF "DeltaFerryModel" 12 0 (.array .long) := ⟨_, Tn_Mo, 51, ty_Mo, rfl, tk_Mo, nm_Mo, rfl, by decide +kernel, rfl⟩
theorem fpf_Mo_1 : FPF "DeltaFerryModel" 12 1 (.array .int) := ⟨_, Tn_Mo, 51, ty_Mo, rfl, tk_Mo, nm_Mo, rfl, by decide +kernel, rfl⟩
theorem fpf_Mo_2 : FPF "DeltaFerryModel" 12 2 (.array .int) := ⟨_, Tn_Mo, 51, ty_Mo, rfl, tk_Mo, nm_Mo, rfl, by decide +kernel, rfl⟩
theorem fpf_Mo_3 : FPF "DeltaFerryModel" 12 3 (.array .long) := ⟨_, Tn_Mo, 51, ty_Mo, rfl, tk_Mo, nm_Mo, rfl, by decide +kernel, rfl⟩
theorem fpf_Mo_8 : FPF "DeltaFerryModel" 12 8 (.array .long) := ⟨_, Tn_Mo, 51, ty_Mo, rfl, tk_Mo, nm_Mo, rfl, by decide +kernel, rfl⟩
theorem fpf_Mo_9 : FPF "DeltaFerryModel" 12 9 (.array .long) := ⟨_, Tn_Mo, 51, ty_Mo, rfl, tk_Mo, nm_Mo, rfl, by decide +kernel, rfl⟩
theorem fpf_Mo_10 : FPF "DeltaFerryModel" 12 10 (.array .long) := ⟨_, Tn_Mo, 51, ty_Mo, rfl, tk_Mo, nm_Mo, rfl, by decide +kernel, rfl⟩
theorem fpf_Mo_14 : FPF "DeltaFerryModel" 12 14 (.array .int) := ⟨_, Tn_Mo, 51, ty_Mo, rfl, tk_Mo, nm_Mo, rfl, by decide +kernel, rfl⟩
theorem fpf_Mo_15 : FPF "DeltaFerryModel" 12 15 (.array .int) := ⟨_, Tn_Mo, 51, ty_Mo, rfl, tk_Mo, nm_Mo, rfl, by decide +kernel, rfl⟩
theorem fpf_Mo_16 : FPF "DeltaFerryModel" 12 16 (.array .int) := ⟨_, Tn_Mo, 51, ty_Mo, rfl, tk_Mo, nm_Mo, rfl, by decide +kernel, rfl⟩
theorem fpf_Mo_17 : FPF "DeltaFerryModel" 12 17 (.array .int) := ⟨_, Tn_Mo, 51, ty_Mo, rfl, tk_Mo, nm_Mo, rfl, by decide +kernel, rfl⟩
theorem fpf_Mo_19 : FPF "DeltaFerryModel" 12 19 (.array .int) := ⟨_, Tn_Mo, 51, ty_Mo, rfl, tk_Mo, nm_Mo, rfl, by decide +kernel, rfl⟩
theorem fpf_Mo_20 : FPF "DeltaFerryModel" 12 20 (.array .int) := ⟨_, Tn_Mo, 51, ty_Mo, rfl, tk_Mo, nm_Mo, rfl, by decide +kernel, rfl⟩
theorem fpf_Mo_22 : FPF "DeltaFerryModel" 12 22 (.array .int) := ⟨_, Tn_Mo, 51, ty_Mo, rfl, tk_Mo, nm_Mo, rfl, by decide +kernel, rfl⟩
theorem fpf_Mo_23 : FPF "DeltaFerryModel" 12 23 (.array .int) := ⟨_, Tn_Mo, 51, ty_Mo, rfl, tk_Mo, nm_Mo, rfl, by decide +kernel, rfl⟩
theorem fpf_Mo_24 : FPF "DeltaFerryModel" 12 24 (.array .int) := ⟨_, Tn_Mo, 51, ty_Mo, rfl, tk_Mo, nm_Mo, rfl, by decide +kernel, rfl⟩
theorem fpf_Mo_28 : FPF "DeltaFerryModel" 12 28 (.array .int) := ⟨_, Tn_Mo, 51, ty_Mo, rfl, tk_Mo, nm_Mo, rfl, by decide +kernel, rfl⟩
theorem fpf_Mo_29 : FPF "DeltaFerryModel" 12 29 (.array .int) := ⟨_, Tn_Mo, 51, ty_Mo, rfl, tk_Mo, nm_Mo, rfl, by decide +kernel, rfl⟩
theorem fpf_Mo_33 : FPF "DeltaFerryModel" 12 33 (.array .int) := ⟨_, Tn_Mo, 51, ty_Mo, rfl, tk_Mo, nm_Mo, rfl, by decide +kernel, rfl⟩
theorem fpf_Mo_35 : FPF "DeltaFerryModel" 12 35 (.array .int) := ⟨_, Tn_Mo, 51, ty_Mo, rfl, tk_Mo, nm_Mo, rfl, by decide +kernel, rfl⟩
theorem fpf_Mo_38 : FPF "DeltaFerryModel" 12 38 (.array .int) := ⟨_, Tn_Mo, 51, ty_Mo, rfl, tk_Mo, nm_Mo, rfl, by decide +kernel, rfl⟩
theorem fpf_Mo_44 : FPF "DeltaFerryModel" 12 44 (.array .int) := ⟨_, Tn_Mo, 51, ty_Mo, rfl, tk_Mo, nm_Mo, rfl, by decide +kernel, rfl⟩
theorem fpf_Mo_45 : FPF "DeltaFerryModel" 12 45 (.array .int) := ⟨_, Tn_Mo, 51, ty_Mo, rfl, tk_Mo, nm_Mo, rfl, by decide +kernel, rfl⟩
theorem i_Ws (E : EV) (ws0 : va_W) (a : Nat) : Ct yn_Ws_init cd_Ws_init 1 none ({ frames := 1, cells := 0, slots := 0, locals := 40 } : Room) E [.ref a] (ws0 ++ [(a, .inr (8, [.int 0, .int 0, .int 0, .int 0]))]) (fun r w' => r = none ∧ w' = ws0 ++ [(a, .inr (8, [.int 0, .int 0, .int 0, .int 0]))]) := by
  refine Ct.of (by decide +kernel) (Nat.le_of_ble_eq_true rfl) fun X hX hE => ?_
  have hX : Ok E X "DeltaFerry$WeakSum" "<init>" cd_Ws_init 1 none ({ frames := 1, cells := 0, slots := 0, locals := 40 } : Room) := hX
  refine G_cast (lv' := [(0, .ref a)]) ?_ rfl rfl rfl rfl
  refine G_aload_n hX 0 rfl rfl d_Ws_init_0 ?_
  refine G_objInit hX ml_Ws_1 d_Ws_init_1 (Nat.le_of_ble_eq_true rfl) (Nat.le_of_ble_eq_true rfl) ?_
  exact G_vret hX hE d_Ws_init_4 ⟨rfl, rfl⟩
theorem i_Cu (E : EV) (ws0 : va_W) (a : Nat) : Ct yn_Cu_init cd_Cu_init 1 none ({ frames := 1, cells := 1, slots := 0, locals := 40 } : Room) E [.ref a] (ws0 ++ [(a, .inr (1, [.null, .int 0, .int 0]))]) (fun r w' => r = none ∧ ∃ p0 : Nat, w' = ws0 ++ [(a, .inr (1, [.ref p0, .int 0, .int 0])), (p0, .inl (eI E, 0, .inl (fun _ => 0)))]) := by
  refine Ct.of (by decide +kernel) (Nat.le_of_ble_eq_true rfl) fun X hX hE => ?_
  have hX : Ok E X "DeltaFerry$Cursor" "<init>" cd_Cu_init 1 none ({ frames := 1, cells := 1, slots := 0, locals := 40 } : Room) := hX
  refine G_cast (lv' := [(0, .ref a)]) ?_ rfl rfl rfl rfl
  refine G_aload_n hX 0 rfl rfl d_Cu_init_0 ?_
  refine G_objInit hX ml_Cu_3 d_Cu_init_1 (Nat.le_of_ble_eq_true rfl) (Nat.le_of_ble_eq_true rfl) ?_
  refine G_aload_n hX 0 rfl rfl d_Cu_init_4 ?_
  refine G_iconst hX d_Cu_init_5 ?_
  refine G_newI hX (N := 0) (by decide) (by decide) (by decide) (by decide) d_Cu_init_6 (fun q1 => ?_)
  refine G_cast (st' := [.ref q1, .ref a]) (ws' := ws0 ++ [(a, .inr (1, [.null, .int 0, .int 0])), (q1, .inl (eI E, 0, .inl (fun _ => 0)))]) ?_ rfl rfl rfl (by rw [List.append_assoc]; rfl)
  refine G_put hX fg_Cu_9 fp_Cu_0 d_Cu_init_8 (ws0.length + 0) (ap_at rfl) rfl rfl (Nat.le_of_ble_eq_true rfl) ?_
  refine G_cast (st' := []) (ws' := ws0 ++ [(a, .inr (1, [.ref q1, .int 0, .int 0])), (q1, .inl (eI E, 0, .inl (fun _ => 0)))]) ?_ rfl rfl rfl (by rw [ap_set]; rfl)
  exact G_vret hX hE d_Cu_init_11 ⟨rfl, _, rfl⟩
theorem i_Dg (E : EV) (ws0 : va_W) (a : Nat) : Ct yn_Dg_init cd_Dg_init 1 none ({ frames := 1, cells := 2, slots := 20, locals := 40 } : Room) E [.ref a] (ws0 ++ [(a, .inr (2, [.null, .null]))]) (fun r w' => r = none ∧ ∃ p0 p1 : Nat, w' = ws0 ++ [(a, .inr (2, [.ref p0, .ref p1])), (p0, .inl (eI E, 4, .inl (fun _ => 0))), (p1, .inl (eI E, 16, .inl (fun _ => 0)))]) := by
  refine Ct.of (by decide +kernel) (Nat.le_of_ble_eq_true rfl) fun X hX hE => ?_
  have hX : Ok E X "DeltaFerry$Digester" "<init>" cd_Dg_init 1 none ({ frames := 1, cells := 2, slots := 20, locals := 40 } : Room) := hX
  refine G_cast (lv' := [(0, .ref a)]) ?_ rfl rfl rfl rfl
  refine G_aload_n hX 0 rfl rfl d_Dg_init_0 ?_
  refine G_objInit hX ml_Dg_1 d_Dg_init_1 (Nat.le_of_ble_eq_true rfl) (Nat.le_of_ble_eq_true rfl) ?_
  refine G_aload_n hX 0 rfl rfl d_Dg_init_4 ?_
  refine G_iconst hX d_Dg_init_5 ?_
  refine G_newI hX (N := 4) (by decide) (by decide) (by decide) (by decide) d_Dg_init_6 (fun q1 => ?_)
  refine G_cast (st' := [.ref q1, .ref a]) (ws' := ws0 ++ [(a, .inr (2, [.null, .null])), (q1, .inl (eI E, 4, .inl (fun _ => 0)))]) ?_ rfl rfl rfl (by rw [List.append_assoc]; rfl)
  refine G_putF hX fg_Dg_7 fpf_Dg_0 d_Dg_init_8 (ws0.length + 0) (ap_at rfl) rfl rfl (Nat.le_of_ble_eq_true rfl) ?_
  refine G_cast (st' := []) (ws' := ws0 ++ [(a, .inr (2, [.ref q1, .null])), (q1, .inl (eI E, 4, .inl (fun _ => 0)))]) ?_ rfl rfl rfl (by rw [ap_set]; rfl)
  refine G_aload_n hX 0 rfl rfl d_Dg_init_11 ?_
  refine G_bipush hX (by decide) d_Dg_init_12 ?_
  refine G_newI hX (N := 16) (by decide) (by decide) (by decide) (by decide) d_Dg_init_14 (fun q2 => ?_)
  refine G_cast (st' := [.ref q2, .ref a]) (ws' := ws0 ++ [(a, .inr (2, [.ref q1, .null])), (q1, .inl (eI E, 4, .inl (fun _ => 0))), (q2, .inl (eI E, 16, .inl (fun _ => 0)))]) ?_ rfl rfl rfl (by rw [List.append_assoc]; rfl)
  refine G_putF hX fg_Dg_13 fpf_Dg_1 d_Dg_init_16 (ws0.length + 0) (ap_at rfl) rfl rfl (Nat.le_of_ble_eq_true rfl) ?_
  refine G_cast (st' := []) (ws' := ws0 ++ [(a, .inr (2, [.ref q1, .ref q2])), (q1, .inl (eI E, 4, .inl (fun _ => 0))), (q2, .inl (eI E, 16, .inl (fun _ => 0)))]) ?_ rfl rfl rfl (by rw [ap_set]; rfl)
  exact G_vret hX hE d_Dg_init_19 ⟨rfl, _, _, rfl⟩
theorem i_Ma (E : EV) (ws0 : va_W) (a : Nat) : Ct yn_Ma_init cd_Ma_init 1 none ({ frames := 1, cells := 1, slots := 556, locals := 40 } : Room) E [.ref a] (ws0 ++ [(a, .inr (3, [.null, .int 0, .int 0, .int 0, .int 0, .int 0]))]) (fun r w' => r = none ∧ ∃ p0 : Nat, w' = ws0 ++ [(a, .inr (3, [.ref p0, .int 0, .int 0, .int 0, .int 0, .int 0])), (p0, .inl (eI E, 556, .inl (fun _ => 0)))]) := by
  refine Ct.of (by decide +kernel) (Nat.le_of_ble_eq_true rfl) fun X hX hE => ?_
  have hX : Ok E X "DeltaFerry$Matcher" "<init>" cd_Ma_init 1 none ({ frames := 1, cells := 1, slots := 556, locals := 40 } : Room) := hX
  refine G_cast (lv' := [(0, .ref a)]) ?_ rfl rfl rfl rfl
  refine G_aload_n hX 0 rfl rfl d_Ma_init_0 ?_
  refine G_objInit hX ml_Ma_3 d_Ma_init_1 (Nat.le_of_ble_eq_true rfl) (Nat.le_of_ble_eq_true rfl) ?_
  refine G_aload_n hX 0 rfl rfl d_Ma_init_4 ?_
  refine G_sipush hX (by decide) d_Ma_init_5 ?_
  refine G_newI hX (N := 556) (by decide) (by decide) (by decide) (by decide) d_Ma_init_8 (fun q1 => ?_)
  refine G_cast (st' := [.ref q1, .ref a]) (ws' := ws0 ++ [(a, .inr (3, [.null, .int 0, .int 0, .int 0, .int 0, .int 0])), (q1, .inl (eI E, 556, .inl (fun _ => 0)))]) ?_ rfl rfl rfl (by rw [List.append_assoc]; rfl)
  refine G_putF hX fg_Ma_9 fpf_Ma_0 d_Ma_init_10 (ws0.length + 0) (ap_at rfl) rfl rfl (Nat.le_of_ble_eq_true rfl) ?_
  refine G_cast (st' := []) (ws' := ws0 ++ [(a, .inr (3, [.ref q1, .int 0, .int 0, .int 0, .int 0, .int 0])), (q1, .inl (eI E, 556, .inl (fun _ => 0)))]) ?_ rfl rfl rfl (by rw [ap_set]; rfl)
  exact G_vret hX hE d_Ma_init_13 ⟨rfl, _, rfl⟩
theorem i_Pl (E : EV) (ws0 : va_W) (a : Nat) : Ct yn_Pl_init cd_Pl_init 1 none ({ frames := 1, cells := 4, slots := 1200, locals := 40 } : Room) E [.ref a] (ws0 ++ [(a, .inr (4, [.null, .null, .null, .null, .int 0, .int 0, .int 0, .int 0]))]) (fun r w' => r = none ∧ ∃ p0 p1 p2 p3 : Nat, w' = ws0 ++ [(a, .inr (4, [.ref p0, .ref p1, .ref p2, .ref p3, .int 0, .int 0, .int (zI 16), .int 0])), (p0, .inl (eI E, 300, .inl (fun _ => 0))), (p1, .inl (eI E, 300, .inl (fun _ => 0))), (p2, .inl (eI E, 300, .inl (fun _ => 0))), (p3, .inl (eI E, 300, .inl (fun _ => 0)))]) := by
  refine Ct.of (by decide +kernel) (Nat.le_of_ble_eq_true rfl) fun X hX hE => ?_
  have hX : Ok E X "DeltaFerry$Plan" "<init>" cd_Pl_init 1 none ({ frames := 1, cells := 4, slots := 1200, locals := 40 } : Room) := hX
  refine G_cast (lv' := [(0, .ref a)]) ?_ rfl rfl rfl rfl
  refine G_aload_n hX 0 rfl rfl d_Pl_init_0 ?_
  refine G_objInit hX ml_Pl_3 d_Pl_init_1 (Nat.le_of_ble_eq_true rfl) (Nat.le_of_ble_eq_true rfl) ?_
  refine G_aload_n hX 0 rfl rfl d_Pl_init_4 ?_
  refine G_sipush hX (by decide) d_Pl_init_5 ?_
  refine G_newI hX (N := 300) (by decide) (by decide) (by decide) (by decide) d_Pl_init_8 (fun q1 => ?_)
  refine G_cast (st' := [.ref q1, .ref a]) (ws' := ws0 ++ [(a, .inr (4, [.null, .null, .null, .null, .int 0, .int 0, .int 0, .int 0])), (q1, .inl (eI E, 300, .inl (fun _ => 0)))]) ?_ rfl rfl rfl (by rw [List.append_assoc]; rfl)
  refine G_putF hX fg_Pl_9 fpf_Pl_0 d_Pl_init_10 (ws0.length + 0) (ap_at rfl) rfl rfl (Nat.le_of_ble_eq_true rfl) ?_
  refine G_cast (st' := []) (ws' := ws0 ++ [(a, .inr (4, [.ref q1, .null, .null, .null, .int 0, .int 0, .int 0, .int 0])), (q1, .inl (eI E, 300, .inl (fun _ => 0)))]) ?_ rfl rfl rfl (by rw [ap_set]; rfl)
  refine G_aload_n hX 0 rfl rfl d_Pl_init_13 ?_
  refine G_sipush hX (by decide) d_Pl_init_14 ?_
  refine G_newI hX (N := 300) (by decide) (by decide) (by decide) (by decide) d_Pl_init_17 (fun q2 => ?_)
  refine G_cast (st' := [.ref q2, .ref a]) (ws' := ws0 ++ [(a, .inr (4, [.ref q1, .null, .null, .null, .int 0, .int 0, .int 0, .int 0])), (q1, .inl (eI E, 300, .inl (fun _ => 0))), (q2, .inl (eI E, 300, .inl (fun _ => 0)))]) ?_ rfl rfl rfl (by rw [List.append_assoc]; rfl)
  refine G_putF hX fg_Pl_15 fpf_Pl_1 d_Pl_init_19 (ws0.length + 0) (ap_at rfl) rfl rfl (Nat.le_of_ble_eq_true rfl) ?_
  refine G_cast (st' := []) (ws' := ws0 ++ [(a, .inr (4, [.ref q1, .ref q2, .null, .null, .int 0, .int 0, .int 0, .int 0])), (q1, .inl (eI E, 300, .inl (fun _ => 0))), (q2, .inl (eI E, 300, .inl (fun _ => 0)))]) ?_ rfl rfl rfl (by rw [ap_set]; rfl)
  refine G_aload_n hX 0 rfl rfl d_Pl_init_22 ?_
  refine G_sipush hX (by decide) d_Pl_init_23 ?_
  refine G_newI hX (N := 300) (by decide) (by decide) (by decide) (by decide) d_Pl_init_26 (fun q3 => ?_)
  refine G_cast (st' := [.ref q3, .ref a]) (ws' := ws0 ++ [(a, .inr (4, [.ref q1, .ref q2, .null, .null, .int 0, .int 0, .int 0, .int 0])), (q1, .inl (eI E, 300, .inl (fun _ => 0))), (q2, .inl (eI E, 300, .inl (fun _ => 0))), (q3, .inl (eI E, 300, .inl (fun _ => 0)))]) ?_ rfl rfl rfl (by rw [List.append_assoc]; rfl)
  refine G_putF hX fg_Pl_18 fpf_Pl_2 d_Pl_init_28 (ws0.length + 0) (ap_at rfl) rfl rfl (Nat.le_of_ble_eq_true rfl) ?_
  refine G_cast (st' := []) (ws' := ws0 ++ [(a, .inr (4, [.ref q1, .ref q2, .ref q3, .null, .int 0, .int 0, .int 0, .int 0])), (q1, .inl (eI E, 300, .inl (fun _ => 0))), (q2, .inl (eI E, 300, .inl (fun _ => 0))), (q3, .inl (eI E, 300, .inl (fun _ => 0)))]) ?_ rfl rfl rfl (by rw [ap_set]; rfl)
  refine G_aload_n hX 0 rfl rfl d_Pl_init_31 ?_
  refine G_sipush hX (by decide) d_Pl_init_32 ?_
  refine G_newI hX (N := 300) (by decide) (by decide) (by decide) (by decide) d_Pl_init_35 (fun q4 => ?_)
  refine G_cast (st' := [.ref q4, .ref a]) (ws' := ws0 ++ [(a, .inr (4, [.ref q1, .ref q2, .ref q3, .null, .int 0, .int 0, .int 0, .int 0])), (q1, .inl (eI E, 300, .inl (fun _ => 0))), (q2, .inl (eI E, 300, .inl (fun _ => 0))), (q3, .inl (eI E, 300, .inl (fun _ => 0))), (q4, .inl (eI E, 300, .inl (fun _ => 0)))]) ?_ rfl rfl rfl (by rw [List.append_assoc]; rfl)
  refine G_putF hX fg_Pl_21 fpf_Pl_3 d_Pl_init_37 (ws0.length + 0) (ap_at rfl) rfl rfl (Nat.le_of_ble_eq_true rfl) ?_
  refine G_cast (st' := []) (ws' := ws0 ++ [(a, .inr (4, [.ref q1, .ref q2, .ref q3, .ref q4, .int 0, .int 0, .int 0, .int 0])), (q1, .inl (eI E, 300, .inl (fun _ => 0))), (q2, .inl (eI E, 300, .inl (fun _ => 0))), (q3, .inl (eI E, 300, .inl (fun _ => 0))), (q4, .inl (eI E, 300, .inl (fun _ => 0)))]) ?_ rfl rfl rfl (by rw [ap_set]; rfl)
  refine G_aload_n hX 0 rfl rfl d_Pl_init_40 ?_
  refine G_bipush hX (by decide) d_Pl_init_41 ?_
  refine G_put hX fg_Pl_24 fp_Pl_6 d_Pl_init_43 (ws0.length + 0) (ap_at rfl) rfl rfl (Nat.le_of_ble_eq_true rfl) ?_
  refine G_cast (st' := []) (ws' := ws0 ++ [(a, .inr (4, [.ref q1, .ref q2, .ref q3, .ref q4, .int 0, .int 0, .int (zI 16), .int 0])), (q1, .inl (eI E, 300, .inl (fun _ => 0))), (q2, .inl (eI E, 300, .inl (fun _ => 0))), (q3, .inl (eI E, 300, .inl (fun _ => 0))), (q4, .inl (eI E, 300, .inl (fun _ => 0)))]) ?_ rfl rfl rfl (by rw [ap_set]; rfl)
  exact G_vret hX hE d_Pl_init_46 ⟨rfl, _, _, _, _, rfl⟩
theorem i_Ad (E : EV) (ws0 : va_W) (a : Nat) : Ct yn_Ad_init cd_Ad_init 1 none ({ frames := 1, cells := 2, slots := 1032, locals := 40 } : Room) E [.ref a] (ws0 ++ [(a, .inr (0, [.null, .null, .int 0, .int 0, .int 0]))]) (fun r w' => r = none ∧ ∃ p0 p1 : Nat, w' = ws0 ++ [(a, .inr (0, [.ref p0, .ref p1, .int 0, .int 0, .int 0])), (p0, .inl (eI E, 8, .inl (fun _ => 0))), (p1, .inl (eI E, 1024, .inl (fun _ => 0)))]) := by
  refine Ct.of (by decide +kernel) (Nat.le_of_ble_eq_true rfl) fun X hX hE => ?_
  have hX : Ok E X "DeltaFerry$AddressRows" "<init>" cd_Ad_init 1 none ({ frames := 1, cells := 2, slots := 1032, locals := 40 } : Room) := hX
  refine G_cast (lv' := [(0, .ref a)]) ?_ rfl rfl rfl rfl
  refine G_aload_n hX 0 rfl rfl d_Ad_init_0 ?_
  refine G_objInit hX ml_Ad_3 d_Ad_init_1 (Nat.le_of_ble_eq_true rfl) (Nat.le_of_ble_eq_true rfl) ?_
  refine G_aload_n hX 0 rfl rfl d_Ad_init_4 ?_
  refine G_bipush hX (by decide) d_Ad_init_5 ?_
  refine G_newI hX (N := 8) (by decide) (by decide) (by decide) (by decide) d_Ad_init_7 (fun q1 => ?_)
  refine G_cast (st' := [.ref q1, .ref a]) (ws' := ws0 ++ [(a, .inr (0, [.null, .null, .int 0, .int 0, .int 0])), (q1, .inl (eI E, 8, .inl (fun _ => 0)))]) ?_ rfl rfl rfl (by rw [List.append_assoc]; rfl)
  refine G_putF hX fg_Ad_9 fpf_Ad_0 d_Ad_init_9 (ws0.length + 0) (ap_at rfl) rfl rfl (Nat.le_of_ble_eq_true rfl) ?_
  refine G_cast (st' := []) (ws' := ws0 ++ [(a, .inr (0, [.ref q1, .null, .int 0, .int 0, .int 0])), (q1, .inl (eI E, 8, .inl (fun _ => 0)))]) ?_ rfl rfl rfl (by rw [ap_set]; rfl)
  refine G_aload_n hX 0 rfl rfl d_Ad_init_12 ?_
  refine G_sipush hX (by decide) d_Ad_init_13 ?_
  refine G_newI hX (N := 1024) (by decide) (by decide) (by decide) (by decide) d_Ad_init_16 (fun q2 => ?_)
  refine G_cast (st' := [.ref q2, .ref a]) (ws' := ws0 ++ [(a, .inr (0, [.ref q1, .null, .int 0, .int 0, .int 0])), (q1, .inl (eI E, 8, .inl (fun _ => 0))), (q2, .inl (eI E, 1024, .inl (fun _ => 0)))]) ?_ rfl rfl rfl (by rw [List.append_assoc]; rfl)
  refine G_putF hX fg_Ad_15 fpf_Ad_1 d_Ad_init_18 (ws0.length + 0) (ap_at rfl) rfl rfl (Nat.le_of_ble_eq_true rfl) ?_
  refine G_cast (st' := []) (ws' := ws0 ++ [(a, .inr (0, [.ref q1, .ref q2, .int 0, .int 0, .int 0])), (q1, .inl (eI E, 8, .inl (fun _ => 0))), (q2, .inl (eI E, 1024, .inl (fun _ => 0)))]) ?_ rfl rfl rfl (by rw [ap_set]; rfl)
  exact G_vret hX hE d_Ad_init_21 ⟨rfl, _, _, rfl⟩
theorem i_Ro_0 (E : EV) (ws0 : va_W) (a : Nat) : Ct yn_Ro_init cd_Ro_init 2 none ({ frames := 1, cells := 1, slots := 0, locals := 40 } : Room) E [.ref a, .int (zI 0)] (ws0 ++ [(a, .inr (6, [.null, .int 0]))]) (fun r w' => r = none ∧ ∃ p0 : Nat, w' = ws0 ++ [(a, .inr (6, [.ref p0, .int 0])), (p0, .inl (eI E, 0, .inl (fun _ => 0)))]) := by
  refine Ct.of (by decide +kernel) (Nat.le_of_ble_eq_true rfl) fun X hX hE => ?_
  have hX : Ok E X "DeltaFerry$Row" "<init>" cd_Ro_init 2 none ({ frames := 1, cells := 1, slots := 0, locals := 40 } : Room) := hX
  refine G_cast (lv' := [(0, .ref a), (1, .int (zI 0))]) ?_ rfl rfl rfl rfl
  refine G_aload_n hX 0 rfl rfl d_Ro_init_0 ?_
  refine G_objInit hX ml_Ro_1 d_Ro_init_1 (Nat.le_of_ble_eq_true rfl) (Nat.le_of_ble_eq_true rfl) ?_
  refine G_aload_n hX 0 rfl rfl d_Ro_init_4 ?_
  refine G_iload_n hX 1 rfl rfl d_Ro_init_5 ?_
  refine G_newI hX (N := 0) (by decide) (by decide) (by decide) (by decide) d_Ro_init_6 (fun q1 => ?_)
  refine G_cast (st' := [.ref q1, .ref a]) (ws' := ws0 ++ [(a, .inr (6, [.null, .int 0])), (q1, .inl (eI E, 0, .inl (fun _ => 0)))]) ?_ rfl rfl rfl (by rw [List.append_assoc]; rfl)
  refine G_putF hX fg_Ro_7 fpf_Ro_0 d_Ro_init_8 (ws0.length + 0) (ap_at rfl) rfl rfl (Nat.le_of_ble_eq_true rfl) ?_
  refine G_cast (st' := []) (ws' := ws0 ++ [(a, .inr (6, [.ref q1, .int 0])), (q1, .inl (eI E, 0, .inl (fun _ => 0)))]) ?_ rfl rfl rfl (by rw [ap_set]; rfl)
  exact G_vret hX hE d_Ro_init_11 ⟨rfl, _, rfl⟩
theorem i_Ro_20 (E : EV) (ws0 : va_W) (a : Nat) : Ct yn_Ro_init cd_Ro_init 2 none ({ frames := 1, cells := 1, slots := 20, locals := 40 } : Room) E [.ref a, .int (zI 20)] (ws0 ++ [(a, .inr (6, [.null, .int 0]))]) (fun r w' => r = none ∧ ∃ p0 : Nat, w' = ws0 ++ [(a, .inr (6, [.ref p0, .int 0])), (p0, .inl (eI E, 20, .inl (fun _ => 0)))]) := by
  refine Ct.of (by decide +kernel) (Nat.le_of_ble_eq_true rfl) fun X hX hE => ?_
  have hX : Ok E X "DeltaFerry$Row" "<init>" cd_Ro_init 2 none ({ frames := 1, cells := 1, slots := 20, locals := 40 } : Room) := hX
  refine G_cast (lv' := [(0, .ref a), (1, .int (zI 20))]) ?_ rfl rfl rfl rfl
  refine G_aload_n hX 0 rfl rfl d_Ro_init_0 ?_
  refine G_objInit hX ml_Ro_1 d_Ro_init_1 (Nat.le_of_ble_eq_true rfl) (Nat.le_of_ble_eq_true rfl) ?_
  refine G_aload_n hX 0 rfl rfl d_Ro_init_4 ?_
  refine G_iload_n hX 1 rfl rfl d_Ro_init_5 ?_
  refine G_newI hX (N := 20) (by decide) (by decide) (by decide) (by decide) d_Ro_init_6 (fun q1 => ?_)
  refine G_cast (st' := [.ref q1, .ref a]) (ws' := ws0 ++ [(a, .inr (6, [.null, .int 0])), (q1, .inl (eI E, 20, .inl (fun _ => 0)))]) ?_ rfl rfl rfl (by rw [List.append_assoc]; rfl)
  refine G_putF hX fg_Ro_7 fpf_Ro_0 d_Ro_init_8 (ws0.length + 0) (ap_at rfl) rfl rfl (Nat.le_of_ble_eq_true rfl) ?_
  refine G_cast (st' := []) (ws' := ws0 ++ [(a, .inr (6, [.ref q1, .int 0])), (q1, .inl (eI E, 20, .inl (fun _ => 0)))]) ?_ rfl rfl rfl (by rw [ap_set]; rfl)
  exact G_vret hX hE d_Ro_init_11 ⟨rfl, _, rfl⟩
theorem i_Ro_256 (E : EV) (ws0 : va_W) (a : Nat) : Ct yn_Ro_init cd_Ro_init 2 none ({ frames := 1, cells := 1, slots := 256, locals := 40 } : Room) E [.ref a, .int (zI 256)] (ws0 ++ [(a, .inr (6, [.null, .int 0]))]) (fun r w' => r = none ∧ ∃ p0 : Nat, w' = ws0 ++ [(a, .inr (6, [.ref p0, .int 0])), (p0, .inl (eI E, 256, .inl (fun _ => 0)))]) := by
  refine Ct.of (by decide +kernel) (Nat.le_of_ble_eq_true rfl) fun X hX hE => ?_
  have hX : Ok E X "DeltaFerry$Row" "<init>" cd_Ro_init 2 none ({ frames := 1, cells := 1, slots := 256, locals := 40 } : Room) := hX
  refine G_cast (lv' := [(0, .ref a), (1, .int (zI 256))]) ?_ rfl rfl rfl rfl
  refine G_aload_n hX 0 rfl rfl d_Ro_init_0 ?_
  refine G_objInit hX ml_Ro_1 d_Ro_init_1 (Nat.le_of_ble_eq_true rfl) (Nat.le_of_ble_eq_true rfl) ?_
  refine G_aload_n hX 0 rfl rfl d_Ro_init_4 ?_
  refine G_iload_n hX 1 rfl rfl d_Ro_init_5 ?_
  refine G_newI hX (N := 256) (by decide) (by decide) (by decide) (by decide) d_Ro_init_6 (fun q1 => ?_)
  refine G_cast (st' := [.ref q1, .ref a]) (ws' := ws0 ++ [(a, .inr (6, [.null, .int 0])), (q1, .inl (eI E, 256, .inl (fun _ => 0)))]) ?_ rfl rfl rfl (by rw [List.append_assoc]; rfl)
  refine G_putF hX fg_Ro_7 fpf_Ro_0 d_Ro_init_8 (ws0.length + 0) (ap_at rfl) rfl rfl (Nat.le_of_ble_eq_true rfl) ?_
  refine G_cast (st' := []) (ws' := ws0 ++ [(a, .inr (6, [.ref q1, .int 0])), (q1, .inl (eI E, 256, .inl (fun _ => 0)))]) ?_ rfl rfl rfl (by rw [ap_set]; rfl)
  exact G_vret hX hE d_Ro_init_11 ⟨rfl, _, rfl⟩
theorem i_Ro_300 (E : EV) (ws0 : va_W) (a : Nat) : Ct yn_Ro_init cd_Ro_init 2 none ({ frames := 1, cells := 1, slots := 300, locals := 40 } : Room) E [.ref a, .int (zI 300)] (ws0 ++ [(a, .inr (6, [.null, .int 0]))]) (fun r w' => r = none ∧ ∃ p0 : Nat, w' = ws0 ++ [(a, .inr (6, [.ref p0, .int 0])), (p0, .inl (eI E, 300, .inl (fun _ => 0)))]) := by
  refine Ct.of (by decide +kernel) (Nat.le_of_ble_eq_true rfl) fun X hX hE => ?_
  have hX : Ok E X "DeltaFerry$Row" "<init>" cd_Ro_init 2 none ({ frames := 1, cells := 1, slots := 300, locals := 40 } : Room) := hX
  refine G_cast (lv' := [(0, .ref a), (1, .int (zI 300))]) ?_ rfl rfl rfl rfl
  refine G_aload_n hX 0 rfl rfl d_Ro_init_0 ?_
  refine G_objInit hX ml_Ro_1 d_Ro_init_1 (Nat.le_of_ble_eq_true rfl) (Nat.le_of_ble_eq_true rfl) ?_
  refine G_aload_n hX 0 rfl rfl d_Ro_init_4 ?_
  refine G_iload_n hX 1 rfl rfl d_Ro_init_5 ?_
  refine G_newI hX (N := 300) (by decide) (by decide) (by decide) (by decide) d_Ro_init_6 (fun q1 => ?_)
  refine G_cast (st' := [.ref q1, .ref a]) (ws' := ws0 ++ [(a, .inr (6, [.null, .int 0])), (q1, .inl (eI E, 300, .inl (fun _ => 0)))]) ?_ rfl rfl rfl (by rw [List.append_assoc]; rfl)
  refine G_putF hX fg_Ro_7 fpf_Ro_0 d_Ro_init_8 (ws0.length + 0) (ap_at rfl) rfl rfl (Nat.le_of_ble_eq_true rfl) ?_
  refine G_cast (st' := []) (ws' := ws0 ++ [(a, .inr (6, [.ref q1, .int 0])), (q1, .inl (eI E, 300, .inl (fun _ => 0)))]) ?_ rfl rfl rfl (by rw [ap_set]; rfl)
  exact G_vret hX hE d_Ro_init_11 ⟨rfl, _, rfl⟩
theorem i_Ro_512 (E : EV) (ws0 : va_W) (a : Nat) : Ct yn_Ro_init cd_Ro_init 2 none ({ frames := 1, cells := 1, slots := 512, locals := 40 } : Room) E [.ref a, .int (zI 512)] (ws0 ++ [(a, .inr (6, [.null, .int 0]))]) (fun r w' => r = none ∧ ∃ p0 : Nat, w' = ws0 ++ [(a, .inr (6, [.ref p0, .int 0])), (p0, .inl (eI E, 512, .inl (fun _ => 0)))]) := by
  refine Ct.of (by decide +kernel) (Nat.le_of_ble_eq_true rfl) fun X hX hE => ?_
  have hX : Ok E X "DeltaFerry$Row" "<init>" cd_Ro_init 2 none ({ frames := 1, cells := 1, slots := 512, locals := 40 } : Room) := hX
  refine G_cast (lv' := [(0, .ref a), (1, .int (zI 512))]) ?_ rfl rfl rfl rfl
  refine G_aload_n hX 0 rfl rfl d_Ro_init_0 ?_
  refine G_objInit hX ml_Ro_1 d_Ro_init_1 (Nat.le_of_ble_eq_true rfl) (Nat.le_of_ble_eq_true rfl) ?_
  refine G_aload_n hX 0 rfl rfl d_Ro_init_4 ?_
  refine G_iload_n hX 1 rfl rfl d_Ro_init_5 ?_
  refine G_newI hX (N := 512) (by decide) (by decide) (by decide) (by decide) d_Ro_init_6 (fun q1 => ?_)
  refine G_cast (st' := [.ref q1, .ref a]) (ws' := ws0 ++ [(a, .inr (6, [.null, .int 0])), (q1, .inl (eI E, 512, .inl (fun _ => 0)))]) ?_ rfl rfl rfl (by rw [List.append_assoc]; rfl)
  refine G_putF hX fg_Ro_7 fpf_Ro_0 d_Ro_init_8 (ws0.length + 0) (ap_at rfl) rfl rfl (Nat.le_of_ble_eq_true rfl) ?_
  refine G_cast (st' := []) (ws' := ws0 ++ [(a, .inr (6, [.ref q1, .int 0])), (q1, .inl (eI E, 512, .inl (fun _ => 0)))]) ?_ rfl rfl rfl (by rw [ap_set]; rfl)
  exact G_vret hX hE d_Ro_init_11 ⟨rfl, _, rfl⟩
theorem i_Ro_700 (E : EV) (ws0 : va_W) (a : Nat) : Ct yn_Ro_init cd_Ro_init 2 none ({ frames := 1, cells := 1, slots := 700, locals := 40 } : Room) E [.ref a, .int (zI 700)] (ws0 ++ [(a, .inr (6, [.null, .int 0]))]) (fun r w' => r = none ∧ ∃ p0 : Nat, w' = ws0 ++ [(a, .inr (6, [.ref p0, .int 0])), (p0, .inl (eI E, 700, .inl (fun _ => 0)))]) := by
  refine Ct.of (by decide +kernel) (Nat.le_of_ble_eq_true rfl) fun X hX hE => ?_
  have hX : Ok E X "DeltaFerry$Row" "<init>" cd_Ro_init 2 none ({ frames := 1, cells := 1, slots := 700, locals := 40 } : Room) := hX
  refine G_cast (lv' := [(0, .ref a), (1, .int (zI 700))]) ?_ rfl rfl rfl rfl
  refine G_aload_n hX 0 rfl rfl d_Ro_init_0 ?_
  refine G_objInit hX ml_Ro_1 d_Ro_init_1 (Nat.le_of_ble_eq_true rfl) (Nat.le_of_ble_eq_true rfl) ?_
  refine G_aload_n hX 0 rfl rfl d_Ro_init_4 ?_
  refine G_iload_n hX 1 rfl rfl d_Ro_init_5 ?_
  refine G_newI hX (N := 700) (by decide) (by decide) (by decide) (by decide) d_Ro_init_6 (fun q1 => ?_)
  refine G_cast (st' := [.ref q1, .ref a]) (ws' := ws0 ++ [(a, .inr (6, [.null, .int 0])), (q1, .inl (eI E, 700, .inl (fun _ => 0)))]) ?_ rfl rfl rfl (by rw [List.append_assoc]; rfl)
  refine G_putF hX fg_Ro_7 fpf_Ro_0 d_Ro_init_8 (ws0.length + 0) (ap_at rfl) rfl rfl (Nat.le_of_ble_eq_true rfl) ?_
  refine G_cast (st' := []) (ws' := ws0 ++ [(a, .inr (6, [.ref q1, .int 0])), (q1, .inl (eI E, 700, .inl (fun _ => 0)))]) ?_ rfl rfl rfl (by rw [ap_set]; rfl)
  exact G_vret hX hE d_Ro_init_11 ⟨rfl, _, rfl⟩
theorem i_Ro_768 (E : EV) (ws0 : va_W) (a : Nat) : Ct yn_Ro_init cd_Ro_init 2 none ({ frames := 1, cells := 1, slots := 768, locals := 40 } : Room) E [.ref a, .int (zI 768)] (ws0 ++ [(a, .inr (6, [.null, .int 0]))]) (fun r w' => r = none ∧ ∃ p0 : Nat, w' = ws0 ++ [(a, .inr (6, [.ref p0, .int 0])), (p0, .inl (eI E, 768, .inl (fun _ => 0)))]) := by
  refine Ct.of (by decide +kernel) (Nat.le_of_ble_eq_true rfl) fun X hX hE => ?_
  have hX : Ok E X "DeltaFerry$Row" "<init>" cd_Ro_init 2 none ({ frames := 1, cells := 1, slots := 768, locals := 40 } : Room) := hX
  refine G_cast (lv' := [(0, .ref a), (1, .int (zI 768))]) ?_ rfl rfl rfl rfl
  refine G_aload_n hX 0 rfl rfl d_Ro_init_0 ?_
  refine G_objInit hX ml_Ro_1 d_Ro_init_1 (Nat.le_of_ble_eq_true rfl) (Nat.le_of_ble_eq_true rfl) ?_
  refine G_aload_n hX 0 rfl rfl d_Ro_init_4 ?_
  refine G_iload_n hX 1 rfl rfl d_Ro_init_5 ?_
  refine G_newI hX (N := 768) (by decide) (by decide) (by decide) (by decide) d_Ro_init_6 (fun q1 => ?_)
  refine G_cast (st' := [.ref q1, .ref a]) (ws' := ws0 ++ [(a, .inr (6, [.null, .int 0])), (q1, .inl (eI E, 768, .inl (fun _ => 0)))]) ?_ rfl rfl rfl (by rw [List.append_assoc]; rfl)
  refine G_putF hX fg_Ro_7 fpf_Ro_0 d_Ro_init_8 (ws0.length + 0) (ap_at rfl) rfl rfl (Nat.le_of_ble_eq_true rfl) ?_
  refine G_cast (st' := []) (ws' := ws0 ++ [(a, .inr (6, [.ref q1, .int 0])), (q1, .inl (eI E, 768, .inl (fun _ => 0)))]) ?_ rfl rfl rfl (by rw [ap_set]; rfl)
  exact G_vret hX hE d_Ro_init_11 ⟨rfl, _, rfl⟩
theorem i_Ro_1536 (E : EV) (ws0 : va_W) (a : Nat) : Ct yn_Ro_init cd_Ro_init 2 none ({ frames := 1, cells := 1, slots := 1536, locals := 40 } : Room) E [.ref a, .int (zI 1536)] (ws0 ++ [(a, .inr (6, [.null, .int 0]))]) (fun r w' => r = none ∧ ∃ p0 : Nat, w' = ws0 ++ [(a, .inr (6, [.ref p0, .int 0])), (p0, .inl (eI E, 1536, .inl (fun _ => 0)))]) := by
  refine Ct.of (by decide +kernel) (Nat.le_of_ble_eq_true rfl) fun X hX hE => ?_
  have hX : Ok E X "DeltaFerry$Row" "<init>" cd_Ro_init 2 none ({ frames := 1, cells := 1, slots := 1536, locals := 40 } : Room) := hX
  refine G_cast (lv' := [(0, .ref a), (1, .int (zI 1536))]) ?_ rfl rfl rfl rfl
  refine G_aload_n hX 0 rfl rfl d_Ro_init_0 ?_
  refine G_objInit hX ml_Ro_1 d_Ro_init_1 (Nat.le_of_ble_eq_true rfl) (Nat.le_of_ble_eq_true rfl) ?_
  refine G_aload_n hX 0 rfl rfl d_Ro_init_4 ?_
  refine G_iload_n hX 1 rfl rfl d_Ro_init_5 ?_
  refine G_newI hX (N := 1536) (by decide) (by decide) (by decide) (by decide) d_Ro_init_6 (fun q1 => ?_)
  refine G_cast (st' := [.ref q1, .ref a]) (ws' := ws0 ++ [(a, .inr (6, [.null, .int 0])), (q1, .inl (eI E, 1536, .inl (fun _ => 0)))]) ?_ rfl rfl rfl (by rw [List.append_assoc]; rfl)
  refine G_putF hX fg_Ro_7 fpf_Ro_0 d_Ro_init_8 (ws0.length + 0) (ap_at rfl) rfl rfl (Nat.le_of_ble_eq_true rfl) ?_
  refine G_cast (st' := []) (ws' := ws0 ++ [(a, .inr (6, [.ref q1, .int 0])), (q1, .inl (eI E, 1536, .inl (fun _ => 0)))]) ?_ rfl rfl rfl (by rw [ap_set]; rfl)
  exact G_vret hX hE d_Ro_init_11 ⟨rfl, _, rfl⟩
theorem i_Ro_1885 (E : EV) (ws0 : va_W) (a : Nat) : Ct yn_Ro_init cd_Ro_init 2 none ({ frames := 1, cells := 1, slots := 1885, locals := 40 } : Room) E [.ref a, .int (zI 1885)] (ws0 ++ [(a, .inr (6, [.null, .int 0]))]) (fun r w' => r = none ∧ ∃ p0 : Nat, w' = ws0 ++ [(a, .inr (6, [.ref p0, .int 0])), (p0, .inl (eI E, 1885, .inl (fun _ => 0)))]) := by
  refine Ct.of (by decide +kernel) (Nat.le_of_ble_eq_true rfl) fun X hX hE => ?_
  have hX : Ok E X "DeltaFerry$Row" "<init>" cd_Ro_init 2 none ({ frames := 1, cells := 1, slots := 1885, locals := 40 } : Room) := hX
  refine G_cast (lv' := [(0, .ref a), (1, .int (zI 1885))]) ?_ rfl rfl rfl rfl
  refine G_aload_n hX 0 rfl rfl d_Ro_init_0 ?_
  refine G_objInit hX ml_Ro_1 d_Ro_init_1 (Nat.le_of_ble_eq_true rfl) (Nat.le_of_ble_eq_true rfl) ?_
  refine G_aload_n hX 0 rfl rfl d_Ro_init_4 ?_
  refine G_iload_n hX 1 rfl rfl d_Ro_init_5 ?_
  refine G_newI hX (N := 1885) (by decide) (by decide) (by decide) (by decide) d_Ro_init_6 (fun q1 => ?_)
  refine G_cast (st' := [.ref q1, .ref a]) (ws' := ws0 ++ [(a, .inr (6, [.null, .int 0])), (q1, .inl (eI E, 1885, .inl (fun _ => 0)))]) ?_ rfl rfl rfl (by rw [List.append_assoc]; rfl)
  refine G_putF hX fg_Ro_7 fpf_Ro_0 d_Ro_init_8 (ws0.length + 0) (ap_at rfl) rfl rfl (Nat.le_of_ble_eq_true rfl) ?_
  refine G_cast (st' := []) (ws' := ws0 ++ [(a, .inr (6, [.ref q1, .int 0])), (q1, .inl (eI E, 1885, .inl (fun _ => 0)))]) ?_ rfl rfl rfl (by rw [ap_set]; rfl)
  exact G_vret hX hE d_Ro_init_11 ⟨rfl, _, rfl⟩
theorem i_Sg (E : EV) (ws0 : va_W) (a : Nat) : Ct yn_Sg_init cd_Sg_init 1 none ({ frames := 2, cells := 7, slots := 251, locals := 80 } : Room) E [.ref a] (ws0 ++ [(a, .inr (7, [.null, .null, .null, .null, .null, .int 0, .int 0, .int 0]))]) (fun r w' => r = none ∧ ∃ p0 p1 p2 p3 p4 p5 p6 : Nat, w' = ws0 ++ [(a, .inr (7, [.ref p0, .ref p3, .ref p4, .ref p5, .ref p6, .int 0, .int 0, .int 0])), (p0, .inr (2, [.ref p1, .ref p2])), (p1, .inl (eI E, 4, .inl (fun _ => 0))), (p2, .inl (eI E, 16, .inl (fun _ => 0))), (p3, .inl (eJ E, 75, .inr (.inl (fun _ => 0)))), (p4, .inl (eJ E, 75, .inr (.inl (fun _ => 0)))), (p5, .inl (eJ E, 75, .inr (.inl (fun _ => 0)))), (p6, .inr (8, [.int 0, .int 0, .int 0, .int 0]))]) := by
  refine Ct.of (by decide +kernel) (Nat.le_of_ble_eq_true rfl) fun X hX hE => ?_
  have hX : Ok E X "DeltaFerry$Signature" "<init>" cd_Sg_init 1 none ({ frames := 2, cells := 7, slots := 251, locals := 80 } : Room) := hX
  refine G_cast (lv' := [(0, .ref a)]) ?_ rfl rfl rfl rfl
  refine G_aload_n hX 0 rfl rfl d_Sg_init_0 ?_
  refine G_objInit hX ml_Sg_3 d_Sg_init_1 (Nat.le_of_ble_eq_true rfl) (Nat.le_of_ble_eq_true rfl) ?_
  refine G_aload_n hX 0 rfl rfl d_Sg_init_4 ?_
  refine G_new hX (ci := 2) (fs := [.null, .null]) rfl in_Dg tk_Dg kl_Sg_9 ki_Dg kj_Dg df_Dg (by decide) d_Sg_init_5 (fun q1 => ?_)
  refine G_dup hX rfl d_Sg_init_8 ?_
  refine G_callIN hX (st := [.ref q1, .ref a]) (host := "DeltaFerry") (i_Dg E (ws0 ++ [(a, .inr (7, [.null, .null, .null, .null, .null, .int 0, .int 0, .int 0]))]) q1) cm_Dg_init im_Dg_init rfl (by decide +kernel) d_Sg_init_9 rfl rfl (Nat.le_of_ble_eq_true rfl) ⟨Nat.le_of_ble_eq_true rfl, Nat.le_of_ble_eq_true rfl⟩ ⟨Nat.le_of_ble_eq_true rfl, Nat.le_of_ble_eq_true rfl⟩ ?_
  rintro _ w9 ⟨rfl, q2, q3, rfl⟩
  refine G_cast (st' := [.ref q1, .ref a]) (ws' := ws0 ++ [(a, .inr (7, [.null, .null, .null, .null, .null, .int 0, .int 0, .int 0])), (q1, .inr (2, [.ref q2, .ref q3])), (q2, .inl (eI E, 4, .inl (fun _ => 0))), (q3, .inl (eI E, 16, .inl (fun _ => 0)))]) ?_ rfl rfl rfl (by rw [List.append_assoc]; rfl)
  refine G_putF hX fg_Sg_12 fpf_Sg_0 d_Sg_init_12 (ws0.length + 0) (ap_at rfl) rfl rfl (Nat.le_of_ble_eq_true rfl) ?_
  refine G_cast (st' := []) (ws' := ws0 ++ [(a, .inr (7, [.ref q1, .null, .null, .null, .null, .int 0, .int 0, .int 0])), (q1, .inr (2, [.ref q2, .ref q3])), (q2, .inl (eI E, 4, .inl (fun _ => 0))), (q3, .inl (eI E, 16, .inl (fun _ => 0)))]) ?_ rfl rfl rfl (by rw [ap_set]; rfl)
  refine G_aload_n hX 0 rfl rfl d_Sg_init_15 ?_
  refine G_bipush hX (by decide) d_Sg_init_16 ?_
  refine G_newJ hX (N := 75) (by decide) (by decide) (by decide) (by decide) d_Sg_init_18 (fun q4 => ?_)
  refine G_cast (st' := [.ref q4, .ref a]) (ws' := ws0 ++ [(a, .inr (7, [.ref q1, .null, .null, .null, .null, .int 0, .int 0, .int 0])), (q1, .inr (2, [.ref q2, .ref q3])), (q2, .inl (eI E, 4, .inl (fun _ => 0))), (q3, .inl (eI E, 16, .inl (fun _ => 0))), (q4, .inl (eJ E, 75, .inr (.inl (fun _ => 0))))]) ?_ rfl rfl rfl (by rw [List.append_assoc]; rfl)
  refine G_putF hX fg_Sg_18 fpf_Sg_1 d_Sg_init_20 (ws0.length + 0) (ap_at rfl) rfl rfl (Nat.le_of_ble_eq_true rfl) ?_
  refine G_cast (st' := []) (ws' := ws0 ++ [(a, .inr (7, [.ref q1, .ref q4, .null, .null, .null, .int 0, .int 0, .int 0])), (q1, .inr (2, [.ref q2, .ref q3])), (q2, .inl (eI E, 4, .inl (fun _ => 0))), (q3, .inl (eI E, 16, .inl (fun _ => 0))), (q4, .inl (eJ E, 75, .inr (.inl (fun _ => 0))))]) ?_ rfl rfl rfl (by rw [ap_set]; rfl)
  refine G_aload_n hX 0 rfl rfl d_Sg_init_23 ?_
  refine G_bipush hX (by decide) d_Sg_init_24 ?_
  refine G_newJ hX (N := 75) (by decide) (by decide) (by decide) (by decide) d_Sg_init_26 (fun q5 => ?_)
  refine G_cast (st' := [.ref q5, .ref a]) (ws' := ws0 ++ [(a, .inr (7, [.ref q1, .ref q4, .null, .null, .null, .int 0, .int 0, .int 0])), (q1, .inr (2, [.ref q2, .ref q3])), (q2, .inl (eI E, 4, .inl (fun _ => 0))), (q3, .inl (eI E, 16, .inl (fun _ => 0))), (q4, .inl (eJ E, 75, .inr (.inl (fun _ => 0)))), (q5, .inl (eJ E, 75, .inr (.inl (fun _ => 0))))]) ?_ rfl rfl rfl (by rw [List.append_assoc]; rfl)
  refine G_putF hX fg_Sg_22 fpf_Sg_2 d_Sg_init_28 (ws0.length + 0) (ap_at rfl) rfl rfl (Nat.le_of_ble_eq_true rfl) ?_
  refine G_cast (st' := []) (ws' := ws0 ++ [(a, .inr (7, [.ref q1, .ref q4, .ref q5, .null, .null, .int 0, .int 0, .int 0])), (q1, .inr (2, [.ref q2, .ref q3])), (q2, .inl (eI E, 4, .inl (fun _ => 0))), (q3, .inl (eI E, 16, .inl (fun _ => 0))), (q4, .inl (eJ E, 75, .inr (.inl (fun _ => 0)))), (q5, .inl (eJ E, 75, .inr (.inl (fun _ => 0))))]) ?_ rfl rfl rfl (by rw [ap_set]; rfl)
  refine G_aload_n hX 0 rfl rfl d_Sg_init_31 ?_
  refine G_bipush hX (by decide) d_Sg_init_32 ?_
  refine G_newJ hX (N := 75) (by decide) (by decide) (by decide) (by decide) d_Sg_init_34 (fun q6 => ?_)
  refine G_cast (st' := [.ref q6, .ref a]) (ws' := ws0 ++ [(a, .inr (7, [.ref q1, .ref q4, .ref q5, .null, .null, .int 0, .int 0, .int 0])), (q1, .inr (2, [.ref q2, .ref q3])), (q2, .inl (eI E, 4, .inl (fun _ => 0))), (q3, .inl (eI E, 16, .inl (fun _ => 0))), (q4, .inl (eJ E, 75, .inr (.inl (fun _ => 0)))), (q5, .inl (eJ E, 75, .inr (.inl (fun _ => 0)))), (q6, .inl (eJ E, 75, .inr (.inl (fun _ => 0))))]) ?_ rfl rfl rfl (by rw [List.append_assoc]; rfl)
  refine G_putF hX fg_Sg_25 fpf_Sg_3 d_Sg_init_36 (ws0.length + 0) (ap_at rfl) rfl rfl (Nat.le_of_ble_eq_true rfl) ?_
  refine G_cast (st' := []) (ws' := ws0 ++ [(a, .inr (7, [.ref q1, .ref q4, .ref q5, .ref q6, .null, .int 0, .int 0, .int 0])), (q1, .inr (2, [.ref q2, .ref q3])), (q2, .inl (eI E, 4, .inl (fun _ => 0))), (q3, .inl (eI E, 16, .inl (fun _ => 0))), (q4, .inl (eJ E, 75, .inr (.inl (fun _ => 0)))), (q5, .inl (eJ E, 75, .inr (.inl (fun _ => 0)))), (q6, .inl (eJ E, 75, .inr (.inl (fun _ => 0))))]) ?_ rfl rfl rfl (by rw [ap_set]; rfl)
  refine G_aload_n hX 0 rfl rfl d_Sg_init_39 ?_
  refine G_new hX (ci := 8) (fs := [.int 0, .int 0, .int 0, .int 0]) rfl in_Ws tk_Ws kl_Sg_28 ki_Ws kj_Ws df_Ws (by decide) d_Sg_init_40 (fun q7 => ?_)
  refine G_dup hX rfl d_Sg_init_43 ?_
  refine G_callIN hX (st := [.ref q7, .ref a]) (host := "DeltaFerry") (i_Ws E (ws0 ++ [(a, .inr (7, [.ref q1, .ref q4, .ref q5, .ref q6, .null, .int 0, .int 0, .int 0])), (q1, .inr (2, [.ref q2, .ref q3])), (q2, .inl (eI E, 4, .inl (fun _ => 0))), (q3, .inl (eI E, 16, .inl (fun _ => 0))), (q4, .inl (eJ E, 75, .inr (.inl (fun _ => 0)))), (q5, .inl (eJ E, 75, .inr (.inl (fun _ => 0)))), (q6, .inl (eJ E, 75, .inr (.inl (fun _ => 0))))]) q7) cm_Ws_init im_Ws_init rfl (by decide +kernel) d_Sg_init_44 rfl rfl (Nat.le_of_ble_eq_true rfl) ⟨Nat.le_of_ble_eq_true rfl, Nat.le_of_ble_eq_true rfl⟩ ⟨Nat.le_of_ble_eq_true rfl, Nat.le_of_ble_eq_true rfl⟩ ?_
  rintro _ w9 ⟨rfl, rfl⟩
  refine G_cast (st' := [.ref q7, .ref a]) (ws' := ws0 ++ [(a, .inr (7, [.ref q1, .ref q4, .ref q5, .ref q6, .null, .int 0, .int 0, .int 0])), (q1, .inr (2, [.ref q2, .ref q3])), (q2, .inl (eI E, 4, .inl (fun _ => 0))), (q3, .inl (eI E, 16, .inl (fun _ => 0))), (q4, .inl (eJ E, 75, .inr (.inl (fun _ => 0)))), (q5, .inl (eJ E, 75, .inr (.inl (fun _ => 0)))), (q6, .inl (eJ E, 75, .inr (.inl (fun _ => 0)))), (q7, .inr (8, [.int 0, .int 0, .int 0, .int 0]))]) ?_ rfl rfl rfl (by rw [List.append_assoc]; rfl)
  refine G_putF hX fg_Sg_31 fpf_Sg_4 d_Sg_init_47 (ws0.length + 0) (ap_at rfl) rfl rfl (Nat.le_of_ble_eq_true rfl) ?_
  refine G_cast (st' := []) (ws' := ws0 ++ [(a, .inr (7, [.ref q1, .ref q4, .ref q5, .ref q6, .ref q7, .int 0, .int 0, .int 0])), (q1, .inr (2, [.ref q2, .ref q3])), (q2, .inl (eI E, 4, .inl (fun _ => 0))), (q3, .inl (eI E, 16, .inl (fun _ => 0))), (q4, .inl (eJ E, 75, .inr (.inl (fun _ => 0)))), (q5, .inl (eJ E, 75, .inr (.inl (fun _ => 0)))), (q6, .inl (eJ E, 75, .inr (.inl (fun _ => 0)))), (q7, .inr (8, [.int 0, .int 0, .int 0, .int 0]))]) ?_ rfl rfl rfl (by rw [ap_set]; rfl)
  exact G_vret hX hE d_Sg_init_50 ⟨rfl, _, _, _, _, _, _, _, rfl⟩
theorem i_Wt (E : EV) (ws0 : va_W) (a : Nat) : Ct yn_Wt_init cd_Wt_init 1 none ({ frames := 2, cells := 14, slots := 4788, locals := 80 } : Room) E [.ref a] (ws0 ++ [(a, .inr (10, [.null, .null, .null, .null, .null, .null, .null, .int 0]))]) (fun r w' => r = none ∧ ∃ p0 p1 p2 p3 p4 p5 p6 p7 p8 p9 p10 p11 p12 p13 : Nat, w' = ws0 ++ [(a, .inr (10, [.ref p0, .ref p2, .ref p4, .ref p6, .ref p8, .ref p10, .ref p11, .int 0])), (p0, .inr (6, [.ref p1, .int 0])), (p1, .inl (eI E, 1885, .inl (fun _ => 0))), (p2, .inr (6, [.ref p3, .int 0])), (p3, .inl (eI E, 20, .inl (fun _ => 0))), (p4, .inr (6, [.ref p5, .int 0])), (p5, .inl (eI E, 256, .inl (fun _ => 0))), (p6, .inr (6, [.ref p7, .int 0])), (p7, .inl (eI E, 768, .inl (fun _ => 0))), (p8, .inr (6, [.ref p9, .int 0])), (p9, .inl (eI E, 512, .inl (fun _ => 0))), (p10, .inl (eI E, 300, .inl (fun _ => 0))), (p11, .inr (0, [.ref p12, .ref p13, .int 0, .int 0, .int 0])), (p12, .inl (eI E, 8, .inl (fun _ => 0))), (p13, .inl (eI E, 1024, .inl (fun _ => 0)))]) := by
  refine Ct.of (by decide +kernel) (Nat.le_of_ble_eq_true rfl) fun X hX hE => ?_
  have hX : Ok E X "DeltaFerry$Writer" "<init>" cd_Wt_init 1 none ({ frames := 2, cells := 14, slots := 4788, locals := 80 } : Room) := hX
  refine G_cast (lv' := [(0, .ref a)]) ?_ rfl rfl rfl rfl
  refine G_aload_n hX 0 rfl rfl d_Wt_init_0 ?_
  refine G_objInit hX ml_Wt_3 d_Wt_init_1 (Nat.le_of_ble_eq_true rfl) (Nat.le_of_ble_eq_true rfl) ?_
  refine G_aload_n hX 0 rfl rfl d_Wt_init_4 ?_
  refine G_new hX (ci := 6) (fs := [.null, .int 0]) rfl in_Ro tk_Ro kl_Wt_9 ki_Ro kj_Ro df_Ro (by decide) d_Wt_init_5 (fun q1 => ?_)
  refine G_dup hX rfl d_Wt_init_8 ?_
  refine G_sipush hX (by decide) d_Wt_init_9 ?_
  refine G_callI hX (st := [.ref q1, .ref a]) (i_Ro_1885 E (ws0 ++ [(a, .inr (10, [.null, .null, .null, .null, .null, .null, .null, .int 0]))]) q1) cm_Ro_init im_Ro_init rfl ml_Wt_13 d_Wt_init_12 rfl rfl (Nat.le_of_ble_eq_true rfl) ⟨Nat.le_of_ble_eq_true rfl, Nat.le_of_ble_eq_true rfl⟩ ⟨Nat.le_of_ble_eq_true rfl, Nat.le_of_ble_eq_true rfl⟩ ?_
  rintro _ w9 ⟨rfl, q2, rfl⟩
  refine G_cast (st' := [.ref q1, .ref a]) (ws' := ws0 ++ [(a, .inr (10, [.null, .null, .null, .null, .null, .null, .null, .int 0])), (q1, .inr (6, [.ref q2, .int 0])), (q2, .inl (eI E, 1885, .inl (fun _ => 0)))]) ?_ rfl rfl rfl (by rw [List.append_assoc]; rfl)
  refine G_putF hX fg_Wt_16 fpf_Wt_0 d_Wt_init_15 (ws0.length + 0) (ap_at rfl) rfl rfl (Nat.le_of_ble_eq_true rfl) ?_
  refine G_cast (st' := []) (ws' := ws0 ++ [(a, .inr (10, [.ref q1, .null, .null, .null, .null, .null, .null, .int 0])), (q1, .inr (6, [.ref q2, .int 0])), (q2, .inl (eI E, 1885, .inl (fun _ => 0)))]) ?_ rfl rfl rfl (by rw [ap_set]; rfl)
  refine G_aload_n hX 0 rfl rfl d_Wt_init_18 ?_
  refine G_new hX (ci := 6) (fs := [.null, .int 0]) rfl in_Ro tk_Ro kl_Wt_9 ki_Ro kj_Ro df_Ro (by decide) d_Wt_init_19 (fun q3 => ?_)
  refine G_dup hX rfl d_Wt_init_22 ?_
  refine G_bipush hX (by decide) d_Wt_init_23 ?_
  refine G_callI hX (st := [.ref q3, .ref a]) (i_Ro_20 E (ws0 ++ [(a, .inr (10, [.ref q1, .null, .null, .null, .null, .null, .null, .int 0])), (q1, .inr (6, [.ref q2, .int 0])), (q2, .inl (eI E, 1885, .inl (fun _ => 0)))]) q3) cm_Ro_init im_Ro_init rfl ml_Wt_13 d_Wt_init_25 rfl rfl (Nat.le_of_ble_eq_true rfl) ⟨Nat.le_of_ble_eq_true rfl, Nat.le_of_ble_eq_true rfl⟩ ⟨Nat.le_of_ble_eq_true rfl, Nat.le_of_ble_eq_true rfl⟩ ?_
  rintro _ w9 ⟨rfl, q4, rfl⟩
  refine G_cast (st' := [.ref q3, .ref a]) (ws' := ws0 ++ [(a, .inr (10, [.ref q1, .null, .null, .null, .null, .null, .null, .int 0])), (q1, .inr (6, [.ref q2, .int 0])), (q2, .inl (eI E, 1885, .inl (fun _ => 0))), (q3, .inr (6, [.ref q4, .int 0])), (q4, .inl (eI E, 20, .inl (fun _ => 0)))]) ?_ rfl rfl rfl (by rw [List.append_assoc]; rfl)
  refine G_putF hX fg_Wt_20 fpf_Wt_1 d_Wt_init_28 (ws0.length + 0) (ap_at rfl) rfl rfl (Nat.le_of_ble_eq_true rfl) ?_
  refine G_cast (st' := []) (ws' := ws0 ++ [(a, .inr (10, [.ref q1, .ref q3, .null, .null, .null, .null, .null, .int 0])), (q1, .inr (6, [.ref q2, .int 0])), (q2, .inl (eI E, 1885, .inl (fun _ => 0))), (q3, .inr (6, [.ref q4, .int 0])), (q4, .inl (eI E, 20, .inl (fun _ => 0)))]) ?_ rfl rfl rfl (by rw [ap_set]; rfl)
  refine G_aload_n hX 0 rfl rfl d_Wt_init_31 ?_
  refine G_new hX (ci := 6) (fs := [.null, .int 0]) rfl in_Ro tk_Ro kl_Wt_9 ki_Ro kj_Ro df_Ro (by decide) d_Wt_init_32 (fun q5 => ?_)
  refine G_dup hX rfl d_Wt_init_35 ?_
  refine G_sipush hX (by decide) d_Wt_init_36 ?_
  refine G_callI hX (st := [.ref q5, .ref a]) (i_Ro_256 E (ws0 ++ [(a, .inr (10, [.ref q1, .ref q3, .null, .null, .null, .null, .null, .int 0])), (q1, .inr (6, [.ref q2, .int 0])), (q2, .inl (eI E, 1885, .inl (fun _ => 0))), (q3, .inr (6, [.ref q4, .int 0])), (q4, .inl (eI E, 20, .inl (fun _ => 0)))]) q5) cm_Ro_init im_Ro_init rfl ml_Wt_13 d_Wt_init_39 rfl rfl (Nat.le_of_ble_eq_true rfl) ⟨Nat.le_of_ble_eq_true rfl, Nat.le_of_ble_eq_true rfl⟩ ⟨Nat.le_of_ble_eq_true rfl, Nat.le_of_ble_eq_true rfl⟩ ?_
  rintro _ w9 ⟨rfl, q6, rfl⟩
  refine G_cast (st' := [.ref q5, .ref a]) (ws' := ws0 ++ [(a, .inr (10, [.ref q1, .ref q3, .null, .null, .null, .null, .null, .int 0])), (q1, .inr (6, [.ref q2, .int 0])), (q2, .inl (eI E, 1885, .inl (fun _ => 0))), (q3, .inr (6, [.ref q4, .int 0])), (q4, .inl (eI E, 20, .inl (fun _ => 0))), (q5, .inr (6, [.ref q6, .int 0])), (q6, .inl (eI E, 256, .inl (fun _ => 0)))]) ?_ rfl rfl rfl (by rw [List.append_assoc]; rfl)
  refine G_putF hX fg_Wt_23 fpf_Wt_2 d_Wt_init_42 (ws0.length + 0) (ap_at rfl) rfl rfl (Nat.le_of_ble_eq_true rfl) ?_
  refine G_cast (st' := []) (ws' := ws0 ++ [(a, .inr (10, [.ref q1, .ref q3, .ref q5, .null, .null, .null, .null, .int 0])), (q1, .inr (6, [.ref q2, .int 0])), (q2, .inl (eI E, 1885, .inl (fun _ => 0))), (q3, .inr (6, [.ref q4, .int 0])), (q4, .inl (eI E, 20, .inl (fun _ => 0))), (q5, .inr (6, [.ref q6, .int 0])), (q6, .inl (eI E, 256, .inl (fun _ => 0)))]) ?_ rfl rfl rfl (by rw [ap_set]; rfl)
  refine G_aload_n hX 0 rfl rfl d_Wt_init_45 ?_
  refine G_new hX (ci := 6) (fs := [.null, .int 0]) rfl in_Ro tk_Ro kl_Wt_9 ki_Ro kj_Ro df_Ro (by decide) d_Wt_init_46 (fun q7 => ?_)
  refine G_dup hX rfl d_Wt_init_49 ?_
  refine G_sipush hX (by decide) d_Wt_init_50 ?_
  refine G_callI hX (st := [.ref q7, .ref a]) (i_Ro_768 E (ws0 ++ [(a, .inr (10, [.ref q1, .ref q3, .ref q5, .null, .null, .null, .null, .int 0])), (q1, .inr (6, [.ref q2, .int 0])), (q2, .inl (eI E, 1885, .inl (fun _ => 0))), (q3, .inr (6, [.ref q4, .int 0])), (q4, .inl (eI E, 20, .inl (fun _ => 0))), (q5, .inr (6, [.ref q6, .int 0])), (q6, .inl (eI E, 256, .inl (fun _ => 0)))]) q7) cm_Ro_init im_Ro_init rfl ml_Wt_13 d_Wt_init_53 rfl rfl (Nat.le_of_ble_eq_true rfl) ⟨Nat.le_of_ble_eq_true rfl, Nat.le_of_ble_eq_true rfl⟩ ⟨Nat.le_of_ble_eq_true rfl, Nat.le_of_ble_eq_true rfl⟩ ?_
  rintro _ w9 ⟨rfl, q8, rfl⟩
  refine G_cast (st' := [.ref q7, .ref a]) (ws' := ws0 ++ [(a, .inr (10, [.ref q1, .ref q3, .ref q5, .null, .null, .null, .null, .int 0])), (q1, .inr (6, [.ref q2, .int 0])), (q2, .inl (eI E, 1885, .inl (fun _ => 0))), (q3, .inr (6, [.ref q4, .int 0])), (q4, .inl (eI E, 20, .inl (fun _ => 0))), (q5, .inr (6, [.ref q6, .int 0])), (q6, .inl (eI E, 256, .inl (fun _ => 0))), (q7, .inr (6, [.ref q8, .int 0])), (q8, .inl (eI E, 768, .inl (fun _ => 0)))]) ?_ rfl rfl rfl (by rw [List.append_assoc]; rfl)
  refine G_putF hX fg_Wt_26 fpf_Wt_3 d_Wt_init_56 (ws0.length + 0) (ap_at rfl) rfl rfl (Nat.le_of_ble_eq_true rfl) ?_
  refine G_cast (st' := []) (ws' := ws0 ++ [(a, .inr (10, [.ref q1, .ref q3, .ref q5, .ref q7, .null, .null, .null, .int 0])), (q1, .inr (6, [.ref q2, .int 0])), (q2, .inl (eI E, 1885, .inl (fun _ => 0))), (q3, .inr (6, [.ref q4, .int 0])), (q4, .inl (eI E, 20, .inl (fun _ => 0))), (q5, .inr (6, [.ref q6, .int 0])), (q6, .inl (eI E, 256, .inl (fun _ => 0))), (q7, .inr (6, [.ref q8, .int 0])), (q8, .inl (eI E, 768, .inl (fun _ => 0)))]) ?_ rfl rfl rfl (by rw [ap_set]; rfl)
  refine G_aload_n hX 0 rfl rfl d_Wt_init_59 ?_
  refine G_new hX (ci := 6) (fs := [.null, .int 0]) rfl in_Ro tk_Ro kl_Wt_9 ki_Ro kj_Ro df_Ro (by decide) d_Wt_init_60 (fun q9 => ?_)
  refine G_dup hX rfl d_Wt_init_63 ?_
  refine G_sipush hX (by decide) d_Wt_init_64 ?_
  refine G_callI hX (st := [.ref q9, .ref a]) (i_Ro_512 E (ws0 ++ [(a, .inr (10, [.ref q1, .ref q3, .ref q5, .ref q7, .null, .null, .null, .int 0])), (q1, .inr (6, [.ref q2, .int 0])), (q2, .inl (eI E, 1885, .inl (fun _ => 0))), (q3, .inr (6, [.ref q4, .int 0])), (q4, .inl (eI E, 20, .inl (fun _ => 0))), (q5, .inr (6, [.ref q6, .int 0])), (q6, .inl (eI E, 256, .inl (fun _ => 0))), (q7, .inr (6, [.ref q8, .int 0])), (q8, .inl (eI E, 768, .inl (fun _ => 0)))]) q9) cm_Ro_init im_Ro_init rfl ml_Wt_13 d_Wt_init_67 rfl rfl (Nat.le_of_ble_eq_true rfl) ⟨Nat.le_of_ble_eq_true rfl, Nat.le_of_ble_eq_true rfl⟩ ⟨Nat.le_of_ble_eq_true rfl, Nat.le_of_ble_eq_true rfl⟩ ?_
  rintro _ w9 ⟨rfl, q10, rfl⟩
  refine G_cast (st' := [.ref q9, .ref a]) (ws' := ws0 ++ [(a, .inr (10, [.ref q1, .ref q3, .ref q5, .ref q7, .null, .null, .null, .int 0])), (q1, .inr (6, [.ref q2, .int 0])), (q2, .inl (eI E, 1885, .inl (fun _ => 0))), (q3, .inr (6, [.ref q4, .int 0])), (q4, .inl (eI E, 20, .inl (fun _ => 0))), (q5, .inr (6, [.ref q6, .int 0])), (q6, .inl (eI E, 256, .inl (fun _ => 0))), (q7, .inr (6, [.ref q8, .int 0])), (q8, .inl (eI E, 768, .inl (fun _ => 0))), (q9, .inr (6, [.ref q10, .int 0])), (q10, .inl (eI E, 512, .inl (fun _ => 0)))]) ?_ rfl rfl rfl (by rw [List.append_assoc]; rfl)
  refine G_putF hX fg_Wt_29 fpf_Wt_4 d_Wt_init_70 (ws0.length + 0) (ap_at rfl) rfl rfl (Nat.le_of_ble_eq_true rfl) ?_
  refine G_cast (st' := []) (ws' := ws0 ++ [(a, .inr (10, [.ref q1, .ref q3, .ref q5, .ref q7, .ref q9, .null, .null, .int 0])), (q1, .inr (6, [.ref q2, .int 0])), (q2, .inl (eI E, 1885, .inl (fun _ => 0))), (q3, .inr (6, [.ref q4, .int 0])), (q4, .inl (eI E, 20, .inl (fun _ => 0))), (q5, .inr (6, [.ref q6, .int 0])), (q6, .inl (eI E, 256, .inl (fun _ => 0))), (q7, .inr (6, [.ref q8, .int 0])), (q8, .inl (eI E, 768, .inl (fun _ => 0))), (q9, .inr (6, [.ref q10, .int 0])), (q10, .inl (eI E, 512, .inl (fun _ => 0)))]) ?_ rfl rfl rfl (by rw [ap_set]; rfl)
  refine G_aload_n hX 0 rfl rfl d_Wt_init_73 ?_
  refine G_sipush hX (by decide) d_Wt_init_74 ?_
  refine G_newI hX (N := 300) (by decide) (by decide) (by decide) (by decide) d_Wt_init_77 (fun q11 => ?_)
  refine G_cast (st' := [.ref q11, .ref a]) (ws' := ws0 ++ [(a, .inr (10, [.ref q1, .ref q3, .ref q5, .ref q7, .ref q9, .null, .null, .int 0])), (q1, .inr (6, [.ref q2, .int 0])), (q2, .inl (eI E, 1885, .inl (fun _ => 0))), (q3, .inr (6, [.ref q4, .int 0])), (q4, .inl (eI E, 20, .inl (fun _ => 0))), (q5, .inr (6, [.ref q6, .int 0])), (q6, .inl (eI E, 256, .inl (fun _ => 0))), (q7, .inr (6, [.ref q8, .int 0])), (q8, .inl (eI E, 768, .inl (fun _ => 0))), (q9, .inr (6, [.ref q10, .int 0])), (q10, .inl (eI E, 512, .inl (fun _ => 0))), (q11, .inl (eI E, 300, .inl (fun _ => 0)))]) ?_ rfl rfl rfl (by rw [List.append_assoc]; rfl)
  refine G_putF hX fg_Wt_32 fpf_Wt_5 d_Wt_init_79 (ws0.length + 0) (ap_at rfl) rfl rfl (Nat.le_of_ble_eq_true rfl) ?_
  refine G_cast (st' := []) (ws' := ws0 ++ [(a, .inr (10, [.ref q1, .ref q3, .ref q5, .ref q7, .ref q9, .ref q11, .null, .int 0])), (q1, .inr (6, [.ref q2, .int 0])), (q2, .inl (eI E, 1885, .inl (fun _ => 0))), (q3, .inr (6, [.ref q4, .int 0])), (q4, .inl (eI E, 20, .inl (fun _ => 0))), (q5, .inr (6, [.ref q6, .int 0])), (q6, .inl (eI E, 256, .inl (fun _ => 0))), (q7, .inr (6, [.ref q8, .int 0])), (q8, .inl (eI E, 768, .inl (fun _ => 0))), (q9, .inr (6, [.ref q10, .int 0])), (q10, .inl (eI E, 512, .inl (fun _ => 0))), (q11, .inl (eI E, 300, .inl (fun _ => 0)))]) ?_ rfl rfl rfl (by rw [ap_set]; rfl)
  refine G_aload_n hX 0 rfl rfl d_Wt_init_82 ?_
  refine G_new hX (ci := 0) (fs := [.null, .null, .int 0, .int 0, .int 0]) rfl in_Ad tk_Ad kl_Wt_36 ki_Ad kj_Ad df_Ad (by decide) d_Wt_init_83 (fun q12 => ?_)
  refine G_dup hX rfl d_Wt_init_86 ?_
  refine G_callIN hX (st := [.ref q12, .ref a]) (host := "DeltaFerry") (i_Ad E (ws0 ++ [(a, .inr (10, [.ref q1, .ref q3, .ref q5, .ref q7, .ref q9, .ref q11, .null, .int 0])), (q1, .inr (6, [.ref q2, .int 0])), (q2, .inl (eI E, 1885, .inl (fun _ => 0))), (q3, .inr (6, [.ref q4, .int 0])), (q4, .inl (eI E, 20, .inl (fun _ => 0))), (q5, .inr (6, [.ref q6, .int 0])), (q6, .inl (eI E, 256, .inl (fun _ => 0))), (q7, .inr (6, [.ref q8, .int 0])), (q8, .inl (eI E, 768, .inl (fun _ => 0))), (q9, .inr (6, [.ref q10, .int 0])), (q10, .inl (eI E, 512, .inl (fun _ => 0))), (q11, .inl (eI E, 300, .inl (fun _ => 0)))]) q12) cm_Ad_init im_Ad_init rfl (by decide +kernel) d_Wt_init_87 rfl rfl (Nat.le_of_ble_eq_true rfl) ⟨Nat.le_of_ble_eq_true rfl, Nat.le_of_ble_eq_true rfl⟩ ⟨Nat.le_of_ble_eq_true rfl, Nat.le_of_ble_eq_true rfl⟩ ?_
  rintro _ w9 ⟨rfl, q13, q14, rfl⟩
  refine G_cast (st' := [.ref q12, .ref a]) (ws' := ws0 ++ [(a, .inr (10, [.ref q1, .ref q3, .ref q5, .ref q7, .ref q9, .ref q11, .null, .int 0])), (q1, .inr (6, [.ref q2, .int 0])), (q2, .inl (eI E, 1885, .inl (fun _ => 0))), (q3, .inr (6, [.ref q4, .int 0])), (q4, .inl (eI E, 20, .inl (fun _ => 0))), (q5, .inr (6, [.ref q6, .int 0])), (q6, .inl (eI E, 256, .inl (fun _ => 0))), (q7, .inr (6, [.ref q8, .int 0])), (q8, .inl (eI E, 768, .inl (fun _ => 0))), (q9, .inr (6, [.ref q10, .int 0])), (q10, .inl (eI E, 512, .inl (fun _ => 0))), (q11, .inl (eI E, 300, .inl (fun _ => 0))), (q12, .inr (0, [.ref q13, .ref q14, .int 0, .int 0, .int 0])), (q13, .inl (eI E, 8, .inl (fun _ => 0))), (q14, .inl (eI E, 1024, .inl (fun _ => 0)))]) ?_ rfl rfl rfl (by rw [List.append_assoc]; rfl)
  refine G_putF hX fg_Wt_39 fpf_Wt_6 d_Wt_init_90 (ws0.length + 0) (ap_at rfl) rfl rfl (Nat.le_of_ble_eq_true rfl) ?_
  refine G_cast (st' := []) (ws' := ws0 ++ [(a, .inr (10, [.ref q1, .ref q3, .ref q5, .ref q7, .ref q9, .ref q11, .ref q12, .int 0])), (q1, .inr (6, [.ref q2, .int 0])), (q2, .inl (eI E, 1885, .inl (fun _ => 0))), (q3, .inr (6, [.ref q4, .int 0])), (q4, .inl (eI E, 20, .inl (fun _ => 0))), (q5, .inr (6, [.ref q6, .int 0])), (q6, .inl (eI E, 256, .inl (fun _ => 0))), (q7, .inr (6, [.ref q8, .int 0])), (q8, .inl (eI E, 768, .inl (fun _ => 0))), (q9, .inr (6, [.ref q10, .int 0])), (q10, .inl (eI E, 512, .inl (fun _ => 0))), (q11, .inl (eI E, 300, .inl (fun _ => 0))), (q12, .inr (0, [.ref q13, .ref q14, .int 0, .int 0, .int 0])), (q13, .inl (eI E, 8, .inl (fun _ => 0))), (q14, .inl (eI E, 1024, .inl (fun _ => 0)))]) ?_ rfl rfl rfl (by rw [ap_set]; rfl)
  exact G_vret hX hE d_Wt_init_93 ⟨rfl, _, _, _, _, _, _, _, _, _, _, _, _, _, _, rfl⟩
theorem i_Wr (E : EV) (ws0 : va_W) (a : Nat) : Ct yn_Wr_init cd_Wr_init 1 none ({ frames := 2, cells := 13, slots := 1051, locals := 80 } : Room) E [.ref a] (ws0 ++ [(a, .inr (9, [.null, .null, .null, .null, .null, .null, .null, .int 0, .int 0, .int 0, .int 0, .int 0, .long 0]))]) (fun r w' => r = none ∧ ∃ p0 p1 p2 p3 p4 p5 p6 p7 p8 p9 p10 p11 p12 : Nat, w' = ws0 ++ [(a, .inr (9, [.ref p0, .ref p2, .ref p4, .ref p6, .ref p8, .ref p11, .ref p11, .int 0, .int 0, .int 0, .int 0, .int 0, .long 0])), (p0, .inr (1, [.ref p1, .int 0, .int 0])), (p1, .inl (eI E, 0, .inl (fun _ => 0))), (p2, .inr (1, [.ref p3, .int 0, .int 0])), (p3, .inl (eI E, 0, .inl (fun _ => 0))), (p4, .inr (1, [.ref p5, .int 0, .int 0])), (p5, .inl (eI E, 0, .inl (fun _ => 0))), (p6, .inr (1, [.ref p7, .int 0, .int 0])), (p7, .inl (eI E, 0, .inl (fun _ => 0))), (p8, .inr (0, [.ref p9, .ref p10, .int 0, .int 0, .int 0])), (p9, .inl (eI E, 8, .inl (fun _ => 0))), (p10, .inl (eI E, 1024, .inl (fun _ => 0))), (p11, .inr (6, [.ref p12, .int 0])), (p12, .inl (eI E, 0, .inl (fun _ => 0)))]) := by
  refine Ct.of (by decide +kernel) (Nat.le_of_ble_eq_true rfl) fun X hX hE => ?_
  have hX : Ok E X "DeltaFerry$WindowReader" "<init>" cd_Wr_init 1 none ({ frames := 2, cells := 13, slots := 1051, locals := 80 } : Room) := hX
  refine G_cast (lv' := [(0, .ref a)]) ?_ rfl rfl rfl rfl
  refine G_aload_n hX 0 rfl rfl d_Wr_init_0 ?_
  refine G_objInit hX ml_Wr_3 d_Wr_init_1 (Nat.le_of_ble_eq_true rfl) (Nat.le_of_ble_eq_true rfl) ?_
  refine G_aload_n hX 0 rfl rfl d_Wr_init_4 ?_
  refine G_new hX (ci := 1) (fs := [.null, .int 0, .int 0]) rfl in_Cu tk_Cu kl_Wr_9 ki_Cu kj_Cu df_Cu (by decide) d_Wr_init_5 (fun q1 => ?_)
  refine G_dup hX rfl d_Wr_init_8 ?_
  refine G_callIN hX (st := [.ref q1, .ref a]) (host := "DeltaFerry") (i_Cu E (ws0 ++ [(a, .inr (9, [.null, .null, .null, .null, .null, .null, .null, .int 0, .int 0, .int 0, .int 0, .int 0, .long 0]))]) q1) cm_Cu_init im_Cu_init rfl (by decide +kernel) d_Wr_init_9 rfl rfl (Nat.le_of_ble_eq_true rfl) ⟨Nat.le_of_ble_eq_true rfl, Nat.le_of_ble_eq_true rfl⟩ ⟨Nat.le_of_ble_eq_true rfl, Nat.le_of_ble_eq_true rfl⟩ ?_
  rintro _ w9 ⟨rfl, q2, rfl⟩
  refine G_cast (st' := [.ref q1, .ref a]) (ws' := ws0 ++ [(a, .inr (9, [.null, .null, .null, .null, .null, .null, .null, .int 0, .int 0, .int 0, .int 0, .int 0, .long 0])), (q1, .inr (1, [.ref q2, .int 0, .int 0])), (q2, .inl (eI E, 0, .inl (fun _ => 0)))]) ?_ rfl rfl rfl (by rw [List.append_assoc]; rfl)
  refine G_putF hX fg_Wr_12 fpf_Wr_0 d_Wr_init_12 (ws0.length + 0) (ap_at rfl) rfl rfl (Nat.le_of_ble_eq_true rfl) ?_
  refine G_cast (st' := []) (ws' := ws0 ++ [(a, .inr (9, [.ref q1, .null, .null, .null, .null, .null, .null, .int 0, .int 0, .int 0, .int 0, .int 0, .long 0])), (q1, .inr (1, [.ref q2, .int 0, .int 0])), (q2, .inl (eI E, 0, .inl (fun _ => 0)))]) ?_ rfl rfl rfl (by rw [ap_set]; rfl)
  refine G_aload_n hX 0 rfl rfl d_Wr_init_15 ?_
  refine G_new hX (ci := 1) (fs := [.null, .int 0, .int 0]) rfl in_Cu tk_Cu kl_Wr_9 ki_Cu kj_Cu df_Cu (by decide) d_Wr_init_16 (fun q3 => ?_)
  refine G_dup hX rfl d_Wr_init_19 ?_
  refine G_callIN hX (st := [.ref q3, .ref a]) (host := "DeltaFerry") (i_Cu E (ws0 ++ [(a, .inr (9, [.ref q1, .null, .null, .null, .null, .null, .null, .int 0, .int 0, .int 0, .int 0, .int 0, .long 0])), (q1, .inr (1, [.ref q2, .int 0, .int 0])), (q2, .inl (eI E, 0, .inl (fun _ => 0)))]) q3) cm_Cu_init im_Cu_init rfl (by decide +kernel) d_Wr_init_20 rfl rfl (Nat.le_of_ble_eq_true rfl) ⟨Nat.le_of_ble_eq_true rfl, Nat.le_of_ble_eq_true rfl⟩ ⟨Nat.le_of_ble_eq_true rfl, Nat.le_of_ble_eq_true rfl⟩ ?_
  rintro _ w9 ⟨rfl, q4, rfl⟩
  refine G_cast (st' := [.ref q3, .ref a]) (ws' := ws0 ++ [(a, .inr (9, [.ref q1, .null, .null, .null, .null, .null, .null, .int 0, .int 0, .int 0, .int 0, .int 0, .long 0])), (q1, .inr (1, [.ref q2, .int 0, .int 0])), (q2, .inl (eI E, 0, .inl (fun _ => 0))), (q3, .inr (1, [.ref q4, .int 0, .int 0])), (q4, .inl (eI E, 0, .inl (fun _ => 0)))]) ?_ rfl rfl rfl (by rw [List.append_assoc]; rfl)
  refine G_putF hX fg_Wr_18 fpf_Wr_1 d_Wr_init_23 (ws0.length + 0) (ap_at rfl) rfl rfl (Nat.le_of_ble_eq_true rfl) ?_
  refine G_cast (st' := []) (ws' := ws0 ++ [(a, .inr (9, [.ref q1, .ref q3, .null, .null, .null, .null, .null, .int 0, .int 0, .int 0, .int 0, .int 0, .long 0])), (q1, .inr (1, [.ref q2, .int 0, .int 0])), (q2, .inl (eI E, 0, .inl (fun _ => 0))), (q3, .inr (1, [.ref q4, .int 0, .int 0])), (q4, .inl (eI E, 0, .inl (fun _ => 0)))]) ?_ rfl rfl rfl (by rw [ap_set]; rfl)
  refine G_aload_n hX 0 rfl rfl d_Wr_init_26 ?_
  refine G_new hX (ci := 1) (fs := [.null, .int 0, .int 0]) rfl in_Cu tk_Cu kl_Wr_9 ki_Cu kj_Cu df_Cu (by decide) d_Wr_init_27 (fun q5 => ?_)
  refine G_dup hX rfl d_Wr_init_30 ?_
  refine G_callIN hX (st := [.ref q5, .ref a]) (host := "DeltaFerry") (i_Cu E (ws0 ++ [(a, .inr (9, [.ref q1, .ref q3, .null, .null, .null, .null, .null, .int 0, .int 0, .int 0, .int 0, .int 0, .long 0])), (q1, .inr (1, [.ref q2, .int 0, .int 0])), (q2, .inl (eI E, 0, .inl (fun _ => 0))), (q3, .inr (1, [.ref q4, .int 0, .int 0])), (q4, .inl (eI E, 0, .inl (fun _ => 0)))]) q5) cm_Cu_init im_Cu_init rfl (by decide +kernel) d_Wr_init_31 rfl rfl (Nat.le_of_ble_eq_true rfl) ⟨Nat.le_of_ble_eq_true rfl, Nat.le_of_ble_eq_true rfl⟩ ⟨Nat.le_of_ble_eq_true rfl, Nat.le_of_ble_eq_true rfl⟩ ?_
  rintro _ w9 ⟨rfl, q6, rfl⟩
  refine G_cast (st' := [.ref q5, .ref a]) (ws' := ws0 ++ [(a, .inr (9, [.ref q1, .ref q3, .null, .null, .null, .null, .null, .int 0, .int 0, .int 0, .int 0, .int 0, .long 0])), (q1, .inr (1, [.ref q2, .int 0, .int 0])), (q2, .inl (eI E, 0, .inl (fun _ => 0))), (q3, .inr (1, [.ref q4, .int 0, .int 0])), (q4, .inl (eI E, 0, .inl (fun _ => 0))), (q5, .inr (1, [.ref q6, .int 0, .int 0])), (q6, .inl (eI E, 0, .inl (fun _ => 0)))]) ?_ rfl rfl rfl (by rw [List.append_assoc]; rfl)
  refine G_putF hX fg_Wr_21 fpf_Wr_2 d_Wr_init_34 (ws0.length + 0) (ap_at rfl) rfl rfl (Nat.le_of_ble_eq_true rfl) ?_
  refine G_cast (st' := []) (ws' := ws0 ++ [(a, .inr (9, [.ref q1, .ref q3, .ref q5, .null, .null, .null, .null, .int 0, .int 0, .int 0, .int 0, .int 0, .long 0])), (q1, .inr (1, [.ref q2, .int 0, .int 0])), (q2, .inl (eI E, 0, .inl (fun _ => 0))), (q3, .inr (1, [.ref q4, .int 0, .int 0])), (q4, .inl (eI E, 0, .inl (fun _ => 0))), (q5, .inr (1, [.ref q6, .int 0, .int 0])), (q6, .inl (eI E, 0, .inl (fun _ => 0)))]) ?_ rfl rfl rfl (by rw [ap_set]; rfl)
  refine G_aload_n hX 0 rfl rfl d_Wr_init_37 ?_
  refine G_new hX (ci := 1) (fs := [.null, .int 0, .int 0]) rfl in_Cu tk_Cu kl_Wr_9 ki_Cu kj_Cu df_Cu (by decide) d_Wr_init_38 (fun q7 => ?_)
  refine G_dup hX rfl d_Wr_init_41 ?_
  refine G_callIN hX (st := [.ref q7, .ref a]) (host := "DeltaFerry") (i_Cu E (ws0 ++ [(a, .inr (9, [.ref q1, .ref q3, .ref q5, .null, .null, .null, .null, .int 0, .int 0, .int 0, .int 0, .int 0, .long 0])), (q1, .inr (1, [.ref q2, .int 0, .int 0])), (q2, .inl (eI E, 0, .inl (fun _ => 0))), (q3, .inr (1, [.ref q4, .int 0, .int 0])), (q4, .inl (eI E, 0, .inl (fun _ => 0))), (q5, .inr (1, [.ref q6, .int 0, .int 0])), (q6, .inl (eI E, 0, .inl (fun _ => 0)))]) q7) cm_Cu_init im_Cu_init rfl (by decide +kernel) d_Wr_init_42 rfl rfl (Nat.le_of_ble_eq_true rfl) ⟨Nat.le_of_ble_eq_true rfl, Nat.le_of_ble_eq_true rfl⟩ ⟨Nat.le_of_ble_eq_true rfl, Nat.le_of_ble_eq_true rfl⟩ ?_
  rintro _ w9 ⟨rfl, q8, rfl⟩
  refine G_cast (st' := [.ref q7, .ref a]) (ws' := ws0 ++ [(a, .inr (9, [.ref q1, .ref q3, .ref q5, .null, .null, .null, .null, .int 0, .int 0, .int 0, .int 0, .int 0, .long 0])), (q1, .inr (1, [.ref q2, .int 0, .int 0])), (q2, .inl (eI E, 0, .inl (fun _ => 0))), (q3, .inr (1, [.ref q4, .int 0, .int 0])), (q4, .inl (eI E, 0, .inl (fun _ => 0))), (q5, .inr (1, [.ref q6, .int 0, .int 0])), (q6, .inl (eI E, 0, .inl (fun _ => 0))), (q7, .inr (1, [.ref q8, .int 0, .int 0])), (q8, .inl (eI E, 0, .inl (fun _ => 0)))]) ?_ rfl rfl rfl (by rw [List.append_assoc]; rfl)
  refine G_putF hX fg_Wr_24 fpf_Wr_3 d_Wr_init_45 (ws0.length + 0) (ap_at rfl) rfl rfl (Nat.le_of_ble_eq_true rfl) ?_
  refine G_cast (st' := []) (ws' := ws0 ++ [(a, .inr (9, [.ref q1, .ref q3, .ref q5, .ref q7, .null, .null, .null, .int 0, .int 0, .int 0, .int 0, .int 0, .long 0])), (q1, .inr (1, [.ref q2, .int 0, .int 0])), (q2, .inl (eI E, 0, .inl (fun _ => 0))), (q3, .inr (1, [.ref q4, .int 0, .int 0])), (q4, .inl (eI E, 0, .inl (fun _ => 0))), (q5, .inr (1, [.ref q6, .int 0, .int 0])), (q6, .inl (eI E, 0, .inl (fun _ => 0))), (q7, .inr (1, [.ref q8, .int 0, .int 0])), (q8, .inl (eI E, 0, .inl (fun _ => 0)))]) ?_ rfl rfl rfl (by rw [ap_set]; rfl)
  refine G_aload_n hX 0 rfl rfl d_Wr_init_48 ?_
  refine G_new hX (ci := 0) (fs := [.null, .null, .int 0, .int 0, .int 0]) rfl in_Ad tk_Ad kl_Wr_27 ki_Ad kj_Ad df_Ad (by decide) d_Wr_init_49 (fun q9 => ?_)
  refine G_dup hX rfl d_Wr_init_52 ?_
  refine G_callIN hX (st := [.ref q9, .ref a]) (host := "DeltaFerry") (i_Ad E (ws0 ++ [(a, .inr (9, [.ref q1, .ref q3, .ref q5, .ref q7, .null, .null, .null, .int 0, .int 0, .int 0, .int 0, .int 0, .long 0])), (q1, .inr (1, [.ref q2, .int 0, .int 0])), (q2, .inl (eI E, 0, .inl (fun _ => 0))), (q3, .inr (1, [.ref q4, .int 0, .int 0])), (q4, .inl (eI E, 0, .inl (fun _ => 0))), (q5, .inr (1, [.ref q6, .int 0, .int 0])), (q6, .inl (eI E, 0, .inl (fun _ => 0))), (q7, .inr (1, [.ref q8, .int 0, .int 0])), (q8, .inl (eI E, 0, .inl (fun _ => 0)))]) q9) cm_Ad_init im_Ad_init rfl (by decide +kernel) d_Wr_init_53 rfl rfl (Nat.le_of_ble_eq_true rfl) ⟨Nat.le_of_ble_eq_true rfl, Nat.le_of_ble_eq_true rfl⟩ ⟨Nat.le_of_ble_eq_true rfl, Nat.le_of_ble_eq_true rfl⟩ ?_
  rintro _ w9 ⟨rfl, q10, q11, rfl⟩
  refine G_cast (st' := [.ref q9, .ref a]) (ws' := ws0 ++ [(a, .inr (9, [.ref q1, .ref q3, .ref q5, .ref q7, .null, .null, .null, .int 0, .int 0, .int 0, .int 0, .int 0, .long 0])), (q1, .inr (1, [.ref q2, .int 0, .int 0])), (q2, .inl (eI E, 0, .inl (fun _ => 0))), (q3, .inr (1, [.ref q4, .int 0, .int 0])), (q4, .inl (eI E, 0, .inl (fun _ => 0))), (q5, .inr (1, [.ref q6, .int 0, .int 0])), (q6, .inl (eI E, 0, .inl (fun _ => 0))), (q7, .inr (1, [.ref q8, .int 0, .int 0])), (q8, .inl (eI E, 0, .inl (fun _ => 0))), (q9, .inr (0, [.ref q10, .ref q11, .int 0, .int 0, .int 0])), (q10, .inl (eI E, 8, .inl (fun _ => 0))), (q11, .inl (eI E, 1024, .inl (fun _ => 0)))]) ?_ rfl rfl rfl (by rw [List.append_assoc]; rfl)
  refine G_putF hX fg_Wr_30 fpf_Wr_4 d_Wr_init_56 (ws0.length + 0) (ap_at rfl) rfl rfl (Nat.le_of_ble_eq_true rfl) ?_
  refine G_cast (st' := []) (ws' := ws0 ++ [(a, .inr (9, [.ref q1, .ref q3, .ref q5, .ref q7, .ref q9, .null, .null, .int 0, .int 0, .int 0, .int 0, .int 0, .long 0])), (q1, .inr (1, [.ref q2, .int 0, .int 0])), (q2, .inl (eI E, 0, .inl (fun _ => 0))), (q3, .inr (1, [.ref q4, .int 0, .int 0])), (q4, .inl (eI E, 0, .inl (fun _ => 0))), (q5, .inr (1, [.ref q6, .int 0, .int 0])), (q6, .inl (eI E, 0, .inl (fun _ => 0))), (q7, .inr (1, [.ref q8, .int 0, .int 0])), (q8, .inl (eI E, 0, .inl (fun _ => 0))), (q9, .inr (0, [.ref q10, .ref q11, .int 0, .int 0, .int 0])), (q10, .inl (eI E, 8, .inl (fun _ => 0))), (q11, .inl (eI E, 1024, .inl (fun _ => 0)))]) ?_ rfl rfl rfl (by rw [ap_set]; rfl)
  refine G_aload_n hX 0 rfl rfl d_Wr_init_59 ?_
  refine G_new hX (ci := 6) (fs := [.null, .int 0]) rfl in_Ro tk_Ro kl_Wr_34 ki_Ro kj_Ro df_Ro (by decide) d_Wr_init_60 (fun q12 => ?_)
  refine G_dup hX rfl d_Wr_init_63 ?_
  refine G_iconst hX d_Wr_init_64 ?_
  refine G_callI hX (st := [.ref q12, .ref a]) (i_Ro_0 E (ws0 ++ [(a, .inr (9, [.ref q1, .ref q3, .ref q5, .ref q7, .ref q9, .null, .null, .int 0, .int 0, .int 0, .int 0, .int 0, .long 0])), (q1, .inr (1, [.ref q2, .int 0, .int 0])), (q2, .inl (eI E, 0, .inl (fun _ => 0))), (q3, .inr (1, [.ref q4, .int 0, .int 0])), (q4, .inl (eI E, 0, .inl (fun _ => 0))), (q5, .inr (1, [.ref q6, .int 0, .int 0])), (q6, .inl (eI E, 0, .inl (fun _ => 0))), (q7, .inr (1, [.ref q8, .int 0, .int 0])), (q8, .inl (eI E, 0, .inl (fun _ => 0))), (q9, .inr (0, [.ref q10, .ref q11, .int 0, .int 0, .int 0])), (q10, .inl (eI E, 8, .inl (fun _ => 0))), (q11, .inl (eI E, 1024, .inl (fun _ => 0)))]) q12) cm_Ro_init im_Ro_init rfl ml_Wr_36 d_Wr_init_65 rfl rfl (Nat.le_of_ble_eq_true rfl) ⟨Nat.le_of_ble_eq_true rfl, Nat.le_of_ble_eq_true rfl⟩ ⟨Nat.le_of_ble_eq_true rfl, Nat.le_of_ble_eq_true rfl⟩ ?_
  rintro _ w9 ⟨rfl, q13, rfl⟩
  refine G_cast (st' := [.ref q12, .ref a]) (ws' := ws0 ++ [(a, .inr (9, [.ref q1, .ref q3, .ref q5, .ref q7, .ref q9, .null, .null, .int 0, .int 0, .int 0, .int 0, .int 0, .long 0])), (q1, .inr (1, [.ref q2, .int 0, .int 0])), (q2, .inl (eI E, 0, .inl (fun _ => 0))), (q3, .inr (1, [.ref q4, .int 0, .int 0])), (q4, .inl (eI E, 0, .inl (fun _ => 0))), (q5, .inr (1, [.ref q6, .int 0, .int 0])), (q6, .inl (eI E, 0, .inl (fun _ => 0))), (q7, .inr (1, [.ref q8, .int 0, .int 0])), (q8, .inl (eI E, 0, .inl (fun _ => 0))), (q9, .inr (0, [.ref q10, .ref q11, .int 0, .int 0, .int 0])), (q10, .inl (eI E, 8, .inl (fun _ => 0))), (q11, .inl (eI E, 1024, .inl (fun _ => 0))), (q12, .inr (6, [.ref q13, .int 0])), (q13, .inl (eI E, 0, .inl (fun _ => 0)))]) ?_ rfl rfl rfl (by rw [List.append_assoc]; rfl)
  refine G_put hX fg_Wr_39 fp_Wr_5 d_Wr_init_68 (ws0.length + 0) (ap_at rfl) rfl rfl (Nat.le_of_ble_eq_true rfl) ?_
  refine G_cast (st' := []) (ws' := ws0 ++ [(a, .inr (9, [.ref q1, .ref q3, .ref q5, .ref q7, .ref q9, .ref q12, .null, .int 0, .int 0, .int 0, .int 0, .int 0, .long 0])), (q1, .inr (1, [.ref q2, .int 0, .int 0])), (q2, .inl (eI E, 0, .inl (fun _ => 0))), (q3, .inr (1, [.ref q4, .int 0, .int 0])), (q4, .inl (eI E, 0, .inl (fun _ => 0))), (q5, .inr (1, [.ref q6, .int 0, .int 0])), (q6, .inl (eI E, 0, .inl (fun _ => 0))), (q7, .inr (1, [.ref q8, .int 0, .int 0])), (q8, .inl (eI E, 0, .inl (fun _ => 0))), (q9, .inr (0, [.ref q10, .ref q11, .int 0, .int 0, .int 0])), (q10, .inl (eI E, 8, .inl (fun _ => 0))), (q11, .inl (eI E, 1024, .inl (fun _ => 0))), (q12, .inr (6, [.ref q13, .int 0])), (q13, .inl (eI E, 0, .inl (fun _ => 0)))]) ?_ rfl rfl rfl (by rw [ap_set]; rfl)
  refine G_aload_n hX 0 rfl rfl d_Wr_init_71 ?_
  refine G_aload_n hX 0 rfl rfl d_Wr_init_72 ?_
  refine G_get hX fg_Wr_39 d_Wr_init_73 (ws0.length + 0) (ap_at rfl) rfl ?_
  refine G_put hX fg_Wr_43 fp_Wr_6 d_Wr_init_76 (ws0.length + 0) (ap_at rfl) rfl rfl (Nat.le_of_ble_eq_true rfl) ?_
  refine G_cast (st' := []) (ws' := ws0 ++ [(a, .inr (9, [.ref q1, .ref q3, .ref q5, .ref q7, .ref q9, .ref q12, .ref q12, .int 0, .int 0, .int 0, .int 0, .int 0, .long 0])), (q1, .inr (1, [.ref q2, .int 0, .int 0])), (q2, .inl (eI E, 0, .inl (fun _ => 0))), (q3, .inr (1, [.ref q4, .int 0, .int 0])), (q4, .inl (eI E, 0, .inl (fun _ => 0))), (q5, .inr (1, [.ref q6, .int 0, .int 0])), (q6, .inl (eI E, 0, .inl (fun _ => 0))), (q7, .inr (1, [.ref q8, .int 0, .int 0])), (q8, .inl (eI E, 0, .inl (fun _ => 0))), (q9, .inr (0, [.ref q10, .ref q11, .int 0, .int 0, .int 0])), (q10, .inl (eI E, 8, .inl (fun _ => 0))), (q11, .inl (eI E, 1024, .inl (fun _ => 0))), (q12, .inr (6, [.ref q13, .int 0])), (q13, .inl (eI E, 0, .inl (fun _ => 0)))]) ?_ rfl rfl rfl (by rw [ap_set]; rfl)
  exact G_vret hX hE d_Wr_init_79 ⟨rfl, _, _, _, _, _, _, _, _, _, _, _, _, _, rfl⟩
