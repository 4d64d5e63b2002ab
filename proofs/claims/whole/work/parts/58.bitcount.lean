set_option maxRecDepth 100000 in
set_option maxHeartbeats 4000000 in
theorem c_jL_bitCount {l : Launch} {D : va_G} {ca : Nat → ClassId} {w : va_W} {x : Int} (h0 : 0 ≤ x) (h1 : x < p2 40) : CI l mn_jL_bitCount kw_jL_bitCount (rmk 1) D ca [.long (zL x)] w (fun z u => pop x = z ∧ w = u) (fun u => u) := by
  refine ci_in rc_jL cd_jL_bitCount 2 .int rfl rfl (by decide) (Nat.le_of_ble_eq_true rfl) (fun κ q1 q2 q3 hret => ?_)
  subst q1; subst q2; subst q3
  obtain ⟨m, rfl⟩ := Int.eq_ofNat_of_zero_le h0
  have hm : m < 2 ^ 40 := by have := p2_40N h0 h1; omega
  have hb := pb_bounds m
  refine x_lv [(0, .long (zL (m : Int)))] rfl ?_
  refine x_lload_n dx_jL_bitCount_0 rfl rfl ?_
  refine x_lload_n dx_jL_bitCount_1 rfl rfl ?_
  refine x_iconst dx_jL_bitCount_2 ?_
  refine x_lushr (c := ((m / 2 : Nat) : Int)) dx_jL_bitCount_3 (ush_zL (k := 1) rfl (by omega) (by decide)) ?_
  refine x_ldc2 (z := 6148914691236517205) dx_jL_bitCount_4 kk_jL_314 (by decide) ?_
  refine x_land (c := ((m / 2 &&& bmk 85 8 : Nat) : Int)) dx_jL_bitCount_7 (and_zL (b := bmk 85 8) (by rw [bmk5]; rfl) (by omega) (by rw [bmk5]; decide)) ?_
  refine x_lsub dx_jL_bitCount_8 ?_
  rw [pb1_int]
  obtain ⟨y1, hy1⟩ : ∃ y, y = pb1 8 m := ⟨_, rfl⟩
  rw [← hy1] at hb ⊢
  refine x_lstore_n dx_jL_bitCount_9 rfl (by decide) ?_
  refine x_lload_n dx_jL_bitCount_10 rfl rfl ?_
  refine x_ldc2 (z := 3689348814741910323) dx_jL_bitCount_11 kk_jL_316 (by decide) ?_
  refine x_land (c := ((y1 &&& bmk 51 8 : Nat) : Int)) dx_jL_bitCount_14 (and_zL (b := bmk 51 8) (by rw [bmk3]; rfl) (by omega) (by rw [bmk3]; decide)) ?_
  refine x_lload_n dx_jL_bitCount_15 rfl rfl ?_
  refine x_iconst dx_jL_bitCount_16 ?_
  refine x_lushr (c := ((y1 / 4 : Nat) : Int)) dx_jL_bitCount_17 (ush_zL (k := 2) rfl (by omega) (by decide)) ?_
  refine x_ldc2 (z := 3689348814741910323) dx_jL_bitCount_18 kk_jL_316 (by decide) ?_
  refine x_land (c := ((y1 / 4 &&& bmk 51 8 : Nat) : Int)) dx_jL_bitCount_21 (and_zL (b := bmk 51 8) (by rw [bmk3]; rfl) (by omega) (by rw [bmk3]; decide)) ?_
  refine x_ladd dx_jL_bitCount_22 ?_
  rw [pb2_int]
  obtain ⟨y2, hy2⟩ : ∃ y, y = pb2 8 y1 := ⟨_, rfl⟩
  rw [← hy2] at hb ⊢
  refine x_lstore_n dx_jL_bitCount_23 rfl (by decide) ?_
  refine x_lload_n dx_jL_bitCount_24 rfl rfl ?_
  refine x_lload_n dx_jL_bitCount_25 rfl rfl ?_
  refine x_iconst dx_jL_bitCount_26 ?_
  refine x_lushr (c := ((y2 / 16 : Nat) : Int)) dx_jL_bitCount_27 (ush_zL (k := 4) rfl (by omega) (by decide)) ?_
  refine x_ladd dx_jL_bitCount_28 ?_
  rw [← Int.natCast_add]
  refine x_ldc2 (z := 1085102592571150095) dx_jL_bitCount_29 kk_jL_318 (by decide) ?_
  refine x_land (c := (((y2 + y2 / 16) &&& bmk 15 8 : Nat) : Int)) dx_jL_bitCount_32 (and_zL (b := bmk 15 8) (by rw [bmk0]; rfl) (by omega) (by rw [bmk0]; decide)) ?_
  rw [show (y2 + y2 / 16 &&& bmk 15 8) = pb3 8 y2 from rfl]
  obtain ⟨y3, hy3⟩ : ∃ y, y = pb3 8 y2 := ⟨_, rfl⟩
  rw [← hy3] at hb ⊢
  refine x_lstore_n dx_jL_bitCount_33 rfl (by decide) ?_
  refine x_lload_n dx_jL_bitCount_34 rfl rfl ?_
  refine x_lload_n dx_jL_bitCount_35 rfl rfl ?_
  refine x_bipush dx_jL_bitCount_36 (by decide) ?_
  refine x_lushr (c := ((y3 / 256 : Nat) : Int)) dx_jL_bitCount_38 (ush_zL (k := 8) rfl (by omega) (by decide)) ?_
  refine x_ladd dx_jL_bitCount_39 ?_
  rw [← Int.natCast_add]
  obtain ⟨y4, hy4⟩ : ∃ y, y = y3 + y3 / 256 := ⟨_, rfl⟩
  rw [← hy4]
  refine x_lstore_n dx_jL_bitCount_40 rfl (by decide) ?_
  refine x_lload_n dx_jL_bitCount_41 rfl rfl ?_
  refine x_lload_n dx_jL_bitCount_42 rfl rfl ?_
  refine x_bipush dx_jL_bitCount_43 (by decide) ?_
  refine x_lushr (c := ((y4 / 65536 : Nat) : Int)) dx_jL_bitCount_45 (ush_zL (k := 16) rfl (by omega) (by decide)) ?_
  refine x_ladd dx_jL_bitCount_46 ?_
  rw [← Int.natCast_add]
  obtain ⟨y5, hy5⟩ : ∃ y, y = y4 + y4 / 65536 := ⟨_, rfl⟩
  rw [← hy5]
  refine x_lstore_n dx_jL_bitCount_47 rfl (by decide) ?_
  refine x_lload_n dx_jL_bitCount_48 rfl rfl ?_
  refine x_lload_n dx_jL_bitCount_49 rfl rfl ?_
  refine x_bipush dx_jL_bitCount_50 (by decide) ?_
  refine x_lushr (c := ((y5 / 4294967296 : Nat) : Int)) dx_jL_bitCount_52 (ush_zL (k := 32) rfl (by omega) (by decide)) ?_
  refine x_ladd dx_jL_bitCount_53 ?_
  rw [← Int.natCast_add]
  refine x_lstore_n dx_jL_bitCount_54 rfl (by decide) ?_
  refine x_lload_n dx_jL_bitCount_55 rfl rfl ?_
  refine x_l2i dx_jL_bitCount_56 (l2i_zL _) ?_
  refine x_bipush dx_jL_bitCount_57 (by decide) ?_
  refine x_iand dx_jL_bitCount_59 (and127 _) ?_
  have fin := pop_fin hm (y3 := y3) (by rw [hy3, hy2, hy1])
  rw [← hy4, ← hy5] at fin
  exact hret _ _ _ _ ⟨fin.symm, rfl⟩ rfl dx_jL_bitCount_60
set_option maxRecDepth 100000 in
set_option maxHeartbeats 4000000 in
theorem c_T_variables {l : Launch} {D : va_G} {ca : Nat → ClassId} {ad : Nat → Nat} {σ : S0} {s : Int} {e1 e2 : Int → Int} (hI : INV σ e1 e2) (hs : Rg s) : CXI l mn_T_variables kw_T_variables (rmx 7 1 6) 1 6 D ca [.ref (ad 0), .int (zI s)] (wg 82 LT ca ad σ) (fun z u => In (σ.1 0) s ∧ pop (σ.2.2 18 (σ.2.1 11 s)) = z ∧ σ = u) (fun E u => E = rc_jA ∧ ¬ In (σ.1 0) s ∧ σ = u) (wg 82 LT ca ad) := by
  refine cxi_in rc_T cd_T_variables 2 .int rfl rfl (by decide) (Nat.le_of_ble_eq_true rfl) ⟨by decide, by decide, by decide, by decide⟩ (fun κ h1 h2 h3 Z hret hthr hout => ?_)
  subst h1; subst h2; subst h3
  refine x_lv [(0, .ref (ad 0)), (1, .int (zI s))] rfl ?_
  have hn := hI.1.2.1.2.1
  refine x_aload_n dx_T_variables_0 rfl rfl ?_
  refine x_iload_n dx_T_variables_1 rfl rfl ?_
  refine x_tv1 (c_T_needNode hI.1.1 hs) cf_T_107 Z ⟨rfl, rfl, by decide, by decide⟩ ⟨by decide, by decide⟩ (wl_get (by decide)) rfl rfl (Nat.le_of_ble_eq_true rfl) dx_T_variables_2 (fun E9 u hp => hout _ _ _ _ _ _ (hp) (by decide) (by decide)) (fun u hp => ?_)
  obtain ⟨gs, rfl⟩ := hp
  have gv := (hI.2.2.2.2.1 s gs).1
  have g40 := hI.2.2.2.1
  have gh := (hI.2.1.2 _ gv).2.2.2.2.2.2.2.2
  have gp := p2_le (show (σ.2.1 11 s).toNat + 1 ≤ 40 by omega)
  refine x_aload_n dx_T_variables_5 rfl rfl ?_
  refine x_get fa_T_28 dx_T_variables_6 (by decide) rfl rfl ?_
  refine x_get fa_T_124 dx_T_variables_9 (by decide) rfl rfl ?_
  refine x_aload_n dx_T_variables_12 rfl rfl ?_
  refine x_get fa_T_28 dx_T_variables_13 (by decide) rfl rfl ?_
  refine x_get fa_T_110 dx_T_variables_16 (by decide) rfl rfl ?_
  refine x_iload_n dx_T_variables_19 rfl rfl ?_
  refine x_iald dx_T_variables_20 (by decide) rfl (by omega) (by omega) (by decide) ?_
  refine x_lald dx_T_variables_21 (by decide) rfl (by omega) (by omega) (by decide) ?_
  refine x_csi1 (c_jL_bitCount gh.1 (by omega)) cf_T_127 ⟨rfl, rfl, by decide, by decide⟩ ⟨by decide, by decide⟩ (Nat.le_of_ble_eq_true rfl) dx_T_variables_22 (fun z u hp => ?_)
  obtain ⟨rfl, hu⟩ := hp
  subst hu
  exact hret _ _ _ _ _ _ (by decide) (by decide) ⟨gs, rfl, rfl⟩ rfl dx_T_variables_25
