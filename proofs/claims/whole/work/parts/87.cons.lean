def rmc (f mc ms : Nat) : Room := { frames := f, cells := mc, slots := ms, locals := 40 * f }
theorem ff_E_9 : FF rc_E 9 1 0 := ⟨_, _, _, fy_E, _, rfl, by decide, iw_E, kf_E_9, fo_E, fn_E, rfl, rfl, fo_E 0 (by decide), rfl, fun _ => ⟨rfl, rfl⟩⟩
theorem ff_E_17 : FF rc_E 17 1 1 := ⟨_, _, _, fy_E, _, rfl, by decide, iw_E, kf_E_17, fo_E, fn_E, rfl, rfl, fo_E 1 (by decide), rfl, fun _ => ⟨rfl, rfl⟩⟩
theorem ff_E_20 : FF rc_E 20 1 2 := ⟨_, _, _, fy_E, _, rfl, by decide, iw_E, kf_E_20, fo_E, fn_E, rfl, rfl, fo_E 2 (by decide), rfl, fun _ => ⟨rfl, rfl⟩⟩
theorem ff_E_24 : FF rc_E 24 1 3 := ⟨_, _, _, fy_E, _, rfl, by decide, iw_E, kf_E_24, fo_E, fn_E, rfl, rfl, fo_E 3 (by decide), rfl, fun _ => ⟨rfl, rfl⟩⟩
theorem ff_M_7 : FF rc_M 7 5 3 := ⟨_, _, _, fy_M, _, rfl, by decide, iw_M, kf_M_7, fo_M, fn_M, rfl, rfl, fo_M 3 (by decide), rfl, fun _ => ⟨rfl, rfl⟩⟩
theorem ff_M_13 : FF rc_M 13 5 4 := ⟨_, _, _, fy_M, _, rfl, by decide, iw_M, kf_M_13, fo_M, fn_M, rfl, rfl, fo_M 4 (by decide), rfl, fun _ => ⟨rfl, rfl⟩⟩
theorem ff_M_16 : FF rc_M 16 5 5 := ⟨_, _, _, fy_M, _, rfl, by decide, iw_M, kf_M_16, fo_M, fn_M, rfl, rfl, fo_M 5 (by decide), rfl, fun _ => ⟨rfl, rfl⟩⟩
theorem ff_M_19 : FF rc_M 19 5 6 := ⟨_, _, _, fy_M, _, rfl, by decide, iw_M, kf_M_19, fo_M, fn_M, rfl, rfl, fo_M 6 (by decide), rfl, fun _ => ⟨rfl, rfl⟩⟩
theorem ff_M_22 : FF rc_M 22 5 8 := ⟨_, _, _, fy_M, _, rfl, by decide, iw_M, kf_M_22, fo_M, fn_M, rfl, rfl, fo_M 8 (by decide), rfl, fun _ => ⟨rfl, rfl⟩⟩
theorem ff_M_25 : FF rc_M 25 5 9 := ⟨_, _, _, fy_M, _, rfl, by decide, iw_M, kf_M_25, fo_M, fn_M, rfl, rfl, fo_M 9 (by decide), rfl, fun _ => ⟨rfl, rfl⟩⟩
theorem ff_M_28 : FF rc_M 28 5 10 := ⟨_, _, _, fy_M, _, rfl, by decide, iw_M, kf_M_28, fo_M, fn_M, rfl, rfl, fo_M 10 (by decide), rfl, fun _ => ⟨rfl, rfl⟩⟩
theorem ff_M_31 : FF rc_M 31 5 11 := ⟨_, _, _, fy_M, _, rfl, by decide, iw_M, kf_M_31, fo_M, fn_M, rfl, rfl, fo_M 11 (by decide), rfl, fun _ => ⟨rfl, rfl⟩⟩
theorem ff_M_34 : FF rc_M 34 5 13 := ⟨_, _, _, fy_M, _, rfl, by decide, iw_M, kf_M_34, fo_M, fn_M, rfl, rfl, fo_M 13 (by decide), rfl, fun _ => ⟨rfl, rfl⟩⟩
theorem ff_M_38 : FF rc_M 38 5 14 := ⟨_, _, _, fy_M, _, rfl, by decide, iw_M, kf_M_38, fo_M, fn_M, rfl, rfl, fo_M 14 (by decide), rfl, fun _ => ⟨rfl, rfl⟩⟩
theorem ff_M_41 : FF rc_M 41 5 15 := ⟨_, _, _, fy_M, _, rfl, by decide, iw_M, kf_M_41, fo_M, fn_M, rfl, rfl, fo_M 15 (by decide), rfl, fun _ => ⟨rfl, rfl⟩⟩
theorem ff_M_44 : FF rc_M 44 5 16 := ⟨_, _, _, fy_M, _, rfl, by decide, iw_M, kf_M_44, fo_M, fn_M, rfl, rfl, fo_M 16 (by decide), rfl, fun _ => ⟨rfl, rfl⟩⟩
theorem ff_M_48 : FF rc_M 48 5 17 := ⟨_, _, _, fy_M, _, rfl, by decide, iw_M, kf_M_48, fo_M, fn_M, rfl, rfl, fo_M 17 (by decide), rfl, fun _ => ⟨rfl, rfl⟩⟩
theorem ff_M_51 : FF rc_M 51 5 18 := ⟨_, _, _, fy_M, _, rfl, by decide, iw_M, kf_M_51, fo_M, fn_M, rfl, rfl, fo_M 18 (by decide), rfl, fun _ => ⟨rfl, rfl⟩⟩
theorem ff_M_54 : FF rc_M 54 5 19 := ⟨_, _, _, fy_M, _, rfl, by decide, iw_M, kf_M_54, fo_M, fn_M, rfl, rfl, fo_M 19 (by decide), rfl, fun _ => ⟨rfl, rfl⟩⟩
theorem ff_N_9 : FF rc_N 9 0 0 := ⟨_, _, _, fy_N, _, rfl, by decide, iw_N, kf_N_9, fo_N, fn_N, rfl, rfl, fo_N 0 (by decide), rfl, fun _ => ⟨rfl, rfl⟩⟩
theorem ff_N_15 : FF rc_N 15 0 1 := ⟨_, _, _, fy_N, _, rfl, by decide, iw_N, kf_N_15, fo_N, fn_N, rfl, rfl, fo_N 1 (by decide), rfl, fun _ => ⟨rfl, rfl⟩⟩
theorem ff_N_18 : FF rc_N 18 0 2 := ⟨_, _, _, fy_N, _, rfl, by decide, iw_N, kf_N_18, fo_N, fn_N, rfl, rfl, fo_N 2 (by decide), rfl, fun _ => ⟨rfl, rfl⟩⟩
theorem ff_P_9 : FF rc_P 9 3 0 := ⟨_, _, _, fy_P, _, rfl, by decide, iw_P, kf_P_9, fo_P, fn_P, rfl, rfl, fo_P 0 (by decide), rfl, fun _ => ⟨rfl, rfl⟩⟩
theorem ff_P_15 : FF rc_P 15 3 1 := ⟨_, _, _, fy_P, _, rfl, by decide, iw_P, kf_P_15, fo_P, fn_P, rfl, rfl, fo_P 1 (by decide), rfl, fun _ => ⟨rfl, rfl⟩⟩
theorem ff_P_21 : FF rc_P 21 3 2 := ⟨_, _, _, fy_P, _, rfl, by decide, iw_P, kf_P_21, fo_P, fn_P, rfl, rfl, fo_P 2 (by decide), rfl, fun _ => ⟨rfl, rfl⟩⟩
theorem ff_T_12 : FF rc_T 12 4 0 := ⟨_, _, _, fy_T, _, rfl, by decide, iw_T, kf_T_12, fo_T, fn_T, rfl, rfl, fo_T 0 (by decide), rfl, fun _ => ⟨rfl, rfl⟩⟩
theorem ff_T_21 : FF rc_T 21 4 1 := ⟨_, _, _, fy_T, _, rfl, by decide, iw_T, kf_T_21, fo_T, fn_T, rfl, rfl, fo_T 1 (by decide), rfl, fun _ => ⟨rfl, rfl⟩⟩
theorem ff_T_28 : FF rc_T 28 4 2 := ⟨_, _, _, fy_T, _, rfl, by decide, iw_T, kf_T_28, fo_T, fn_T, rfl, rfl, fo_T 2 (by decide), rfl, fun _ => ⟨rfl, rfl⟩⟩
theorem ff_T_37 : FF rc_T 37 4 3 := ⟨_, _, _, fy_T, _, rfl, by decide, iw_T, kf_T_37, fo_T, fn_T, rfl, rfl, fo_T 3 (by decide), rfl, fun _ => ⟨rfl, rfl⟩⟩
theorem ff_V_9 : FF rc_V 9 2 0 := ⟨_, _, _, fy_V, _, rfl, by decide, iw_V, kf_V_9, fo_V, fn_V, rfl, rfl, fo_V 0 (by decide), rfl, fun _ => ⟨rfl, rfl⟩⟩
theorem ff_V_15 : FF rc_V 15 2 1 := ⟨_, _, _, fy_V, _, rfl, by decide, iw_V, kf_V_15, fo_V, fn_V, rfl, rfl, fo_V 1 (by decide), rfl, fun _ => ⟨rfl, rfl⟩⟩
theorem ff_V_19 : FF rc_V 19 2 2 := ⟨_, _, _, fy_V, _, rfl, by decide, iw_V, kf_V_19, fo_V, fn_V, rfl, rfl, fo_V 2 (by decide), rfl, fun _ => ⟨rfl, rfl⟩⟩
theorem ff_V_22 : FF rc_V 22 2 3 := ⟨_, _, _, fy_V, _, rfl, by decide, iw_V, kf_V_22, fo_V, fn_V, rfl, rfl, fo_V 3 (by decide), rfl, fun _ => ⟨rfl, rfl⟩⟩
theorem ff_V_25 : FF rc_V 25 2 4 := ⟨_, _, _, fy_V, _, rfl, by decide, iw_V, kf_V_25, fo_V, fn_V, rfl, rfl, fo_V 4 (by decide), rfl, fun _ => ⟨rfl, rfl⟩⟩
theorem ff_V_28 : FF rc_V 28 2 5 := ⟨_, _, _, fy_V, _, rfl, by decide, iw_V, kf_V_28, fo_V, fn_V, rfl, rfl, fo_V 5 (by decide), rfl, fun _ => ⟨rfl, rfl⟩⟩
theorem ff_V_31 : FF rc_V 31 2 6 := ⟨_, _, _, fy_V, _, rfl, by decide, iw_V, kf_V_31, fo_V, fn_V, rfl, rfl, fo_V 6 (by decide), rfl, fun _ => ⟨rfl, rfl⟩⟩
theorem ff_V_34 : FF rc_V 34 2 7 := ⟨_, _, _, fy_V, _, rfl, by decide, iw_V, kf_V_34, fo_V, fn_V, rfl, rfl, fo_V 7 (by decide), rfl, fun _ => ⟨rfl, rfl⟩⟩
theorem ff_V_38 : FF rc_V 38 2 8 := ⟨_, _, _, fy_V, _, rfl, by decide, iw_V, kf_V_38, fo_V, fn_V, rfl, rfl, fo_V 8 (by decide), rfl, fun _ => ⟨rfl, rfl⟩⟩
theorem no_L_8 : NO rc_L 8 4 [.null, .null, .null, .null, .int (zI 0)] := ⟨_, _, _, fy_T, rfl, rfl, iw_T, fo_T, kl_L_8, kz_T, kj_T, by decide +kernel⟩
theorem no_T_9 : NO rc_T 9 0 [.null, .null, .null, .int (zI 0)] := ⟨_, _, _, fy_N, rfl, rfl, iw_N, fo_N, kl_T_9, kz_N, kj_N, by decide +kernel⟩
theorem no_T_16 : NO rc_T 16 1 [.null, .null, .null, .null, .int (zI 0), .int (zI 0)] := ⟨_, _, _, fy_E, rfl, rfl, iw_E, fo_E, kl_T_16, kz_E, kj_E, by decide +kernel⟩
theorem no_T_25 : NO rc_T 25 2 [.null, .null, .null, .null, .null, .null, .null, .null, .null, .int (zI 0), .int (zI 0)] := ⟨_, _, _, fy_V, rfl, rfl, iw_V, fo_V, kl_T_25, kz_V, kj_V, by decide +kernel⟩
theorem no_T_32 : NO rc_T 32 3 [.null, .null, .null] := ⟨_, _, _, fy_P, rfl, rfl, iw_P, fo_P, kl_T_32, kz_P, kj_P, by decide +kernel⟩
theorem no_L_63 : NO rc_L 63 5 [.int (zI 0), .int (zI 0), .int (zI 0), .null, .null, .null, .null, .int (zI 0), .null, .null, .null, .null, .int (zI 0), .null, .null, .null, .null, .null, .null, .null] := ⟨_, _, _, fy_M, rfl, rfl, iw_M, fo_M, kl_L_63, kz_M, kj_M, by decide +kernel⟩
theorem cn_L_62 : CN rc_L 62 mn_T_init kw_T_init 1 0 := ⟨⟨_, rfl⟩, kc_T_init, km_L_62, ki_T_init, kj_T, rfl, by decide +kernel⟩
theorem cn_L_65 : CN rc_L 65 mn_M_init kw_M_init 1 0 := ⟨⟨_, rfl⟩, kc_M_init, km_L_65, ki_M_init, kj_M, rfl, by decide +kernel⟩
theorem cn_T_11 : CN rc_T 11 mn_N_init kw_N_init 1 0 := ⟨⟨_, rfl⟩, kc_N_init, km_T_11, ki_N_init, kj_N, rfl, by decide +kernel⟩
theorem cn_T_18 : CN rc_T 18 mn_E_init kw_E_init 3 1 := ⟨⟨_, rfl⟩, kc_E_init, km_T_18, ki_E_init, kj_E, rfl, by decide +kernel⟩
theorem cn_T_27 : CN rc_T 27 mn_V_init kw_V_init 2 1 := ⟨⟨_, rfl⟩, kc_V_init, km_T_27, ki_V_init, kj_V, rfl, by decide +kernel⟩
theorem cn_T_34 : CN rc_T 34 mn_P_init kw_P_init 2 1 := ⟨⟨_, rfl⟩, kc_P_init, km_T_34, ki_P_init, kj_P, rfl, by decide +kernel⟩
theorem x_obj {κ : Kx} {R : Room} {own : String} {cc : ByteArray} {nL : Nat} {w : va_W} {k n pc idx b : Nat} {lv : List (Nat × Value)} {st : List Value} (hl9 : Cond.methodLink own idx mn_jO_init ∈ wB) (d : decode cc pc = .ok (.invokespecial idx, 3)) (hf : 1 ≤ R.frames) (hw : (st.map fun v => v.category).sum ≤ 8) (hlo : 20 ≤ R.locals)
    (kk : X κ R own cc nL w k n (pc + 3) lv st) : X κ R own cc nL w k n pc lv (.ref b :: st) := by
  intro C H locs ls hl hP hD hS
  exact W.objInit C.hx C.hb C.ho (C.ht _ hl9) (C.ht _ ki_jO_init) (C.ht _ kc_jO_init) rfl (hl.1.trans C.hm.symm) rfl d hf (by show 2 * 0 + (st.map fun v => v.category).sum + 12 ≤ R.locals; omega) (kk C H locs ls hl hP hD hS)
def z0 : S0 := (fun _ => 0, fun _ _ => 0, fun _ _ => 0)
def LN9 : Ly := (fun k => if k = 0 then (3, 0) else (0, 40), fun _ ad _ I => .inr (0, [.ref (ad 1), .ref (ad 2), .ref (ad 3), .int (zI (I 0))]))
def LV9 (nb : Nat) : Ly := (fun k => if k = 0 then (3, 0) else if k < 7 then (0, 40) else (1, 40), fun _ ad _ I => .inr (2, [.ref nb, .ref (ad 1), .ref (ad 2), .ref (ad 3), .ref (ad 4), .ref (ad 5), .ref (ad 6), .ref (ad 7), .ref (ad 8), .int (zI (I 3)), .int (zI (I 4))]))
set_option maxRecDepth 100000 in
set_option maxHeartbeats 4000000 in
theorem c_N_init {l : Launch} {D : va_G} {ca : Nat → ClassId} {b : Nat} : CC l mn_N_init kw_N_init (rmc 1 3 120) 3 120 D ca [.ref b] [(b, .inr (0, [.null, .null, .null, .int (zI 0)]))] (fun ad : Nat → Nat => ad 0 = b) (fun ad => wg 4 LN9 ca ad z0) := by
  refine cc_in rc_N cd_N_init 1 rfl rfl (by decide) rfl (Nat.le_of_ble_eq_true rfl) (fun κ h1 h2 h3 hnm ho hret => ?_)
  subst h1; subst h2; subst h3
  refine x_lv [(0, .ref b)] rfl ?_
  refine x_aload_n dx_N_init_0 rfl rfl ?_
  refine x_obj km_N_3 dx_N_init_1 (by decide) (by decide) (by decide) ?_
  refine x_aload_n dx_N_init_4 rfl rfl ?_
  refine x_bipush dx_N_init_5 (by decide) ?_
  refine x_newI (N := 40) ka_int dx_N_init_7 (by decide) (by decide) (by decide) (by decide) (fun q7 => ?_)
  refine x_w (w' := [(b, .inr (0, [.null, .null, .null, .int (zI 0)])), (q7, ia (κ.2.2.1.2.2 0) 40 (fun _ => 0))]) rfl ?_
  refine x_putF (j := 0) ff_N_9 hnm dx_N_init_9 rfl (Nat.le_of_ble_eq_true rfl) ?_
  refine x_w (w' := [(b, .inr (0, [.ref q7, .null, .null, .int (zI 0)])), (q7, ia (κ.2.2.1.2.2 0) 40 (fun _ => 0))]) rfl ?_
  refine x_aload_n dx_N_init_12 rfl rfl ?_
  refine x_bipush dx_N_init_13 (by decide) ?_
  refine x_newI (N := 40) ka_int dx_N_init_15 (by decide) (by decide) (by decide) (by decide) (fun q15 => ?_)
  refine x_w (w' := [(b, .inr (0, [.ref q7, .null, .null, .int (zI 0)])), (q7, ia (κ.2.2.1.2.2 0) 40 (fun _ => 0)), (q15, ia (κ.2.2.1.2.2 0) 40 (fun _ => 0))]) rfl ?_
  refine x_putF (j := 0) ff_N_15 hnm dx_N_init_17 rfl (Nat.le_of_ble_eq_true rfl) ?_
  refine x_w (w' := [(b, .inr (0, [.ref q7, .ref q15, .null, .int (zI 0)])), (q7, ia (κ.2.2.1.2.2 0) 40 (fun _ => 0)), (q15, ia (κ.2.2.1.2.2 0) 40 (fun _ => 0))]) rfl ?_
  refine x_aload_n dx_N_init_20 rfl rfl ?_
  refine x_bipush dx_N_init_21 (by decide) ?_
  refine x_newI (N := 40) ka_int dx_N_init_23 (by decide) (by decide) (by decide) (by decide) (fun q23 => ?_)
  refine x_w (w' := [(b, .inr (0, [.ref q7, .ref q15, .null, .int (zI 0)])), (q7, ia (κ.2.2.1.2.2 0) 40 (fun _ => 0)), (q15, ia (κ.2.2.1.2.2 0) 40 (fun _ => 0)), (q23, ia (κ.2.2.1.2.2 0) 40 (fun _ => 0))]) rfl ?_
  refine x_putF (j := 0) ff_N_18 hnm dx_N_init_25 rfl (Nat.le_of_ble_eq_true rfl) ?_
  refine x_w (w' := [(b, .inr (0, [.ref q7, .ref q15, .ref q23, .int (zI 0)])), (q7, ia (κ.2.2.1.2.2 0) 40 (fun _ => 0)), (q15, ia (κ.2.2.1.2.2 0) 40 (fun _ => 0)), (q23, ia (κ.2.2.1.2.2 0) 40 (fun _ => 0))]) rfl ?_
  refine x_aload_n dx_N_init_28 rfl rfl ?_
  refine x_iconst dx_N_init_29 ?_
  refine x_putN (j := 0) fp_N_21 dx_N_init_30 rfl (Nat.le_of_ble_eq_true rfl) ?_
  refine x_w (w' := [(b, .inr (0, [.ref q7, .ref q15, .ref q23, .int (zI 0)])), (q7, ia (κ.2.2.1.2.2 0) 40 (fun _ => 0)), (q15, ia (κ.2.2.1.2.2 0) 40 (fun _ => 0)), (q23, ia (κ.2.2.1.2.2 0) 40 (fun _ => 0))]) rfl ?_
  exact hret (fun k => match k with | 0 => b | 1 => q7 | 2 => q15 | 3 => q23 | _ => b) 33 _ rfl dx_N_init_33
set_option maxRecDepth 100000 in
set_option maxHeartbeats 4000000 in
theorem c_V_init {l : Launch} {D : va_G} {ca : Nat → ClassId} {b nb : Nat} : CC l mn_V_init kw_V_init (rmc 1 8 320) 8 320 D ca [.ref b, .ref nb] [(b, .inr (2, [.null, .null, .null, .null, .null, .null, .null, .null, .null, .int (zI 0), .int (zI 0)]))] (fun ad : Nat → Nat => ad 0 = b) (fun ad => wg 9 (LV9 nb) ca ad z0) := by
  refine cc_in rc_V cd_V_init 2 rfl rfl (by decide) rfl (Nat.le_of_ble_eq_true rfl) (fun κ h1 h2 h3 hnm ho hret => ?_)
  subst h1; subst h2; subst h3
  refine x_lv [(0, .ref b), (1, .ref nb)] rfl ?_
  refine x_aload_n dx_V_init_0 rfl rfl ?_
  refine x_obj km_V_3 dx_V_init_1 (by decide) (by decide) (by decide) ?_
  refine x_aload_n dx_V_init_4 rfl rfl ?_
  refine x_aload_n dx_V_init_5 rfl rfl ?_
  refine x_putF (j := 0) ff_V_9 hnm dx_V_init_6 rfl (Nat.le_of_ble_eq_true rfl) ?_
  refine x_w (w' := [(b, .inr (2, [.ref nb, .null, .null, .null, .null, .null, .null, .null, .null, .int (zI 0), .int (zI 0)]))]) rfl ?_
  refine x_aload_n dx_V_init_9 rfl rfl ?_
  refine x_bipush dx_V_init_10 (by decide) ?_
  refine x_newI (N := 40) ka_int dx_V_init_12 (by decide) (by decide) (by decide) (by decide) (fun q12 => ?_)
  refine x_w (w' := [(b, .inr (2, [.ref nb, .null, .null, .null, .null, .null, .null, .null, .null, .int (zI 0), .int (zI 0)])), (q12, ia (κ.2.2.1.2.2 0) 40 (fun _ => 0))]) rfl ?_
  refine x_putF (j := 0) ff_V_15 hnm dx_V_init_14 rfl (Nat.le_of_ble_eq_true rfl) ?_
  refine x_w (w' := [(b, .inr (2, [.ref nb, .ref q12, .null, .null, .null, .null, .null, .null, .null, .int (zI 0), .int (zI 0)])), (q12, ia (κ.2.2.1.2.2 0) 40 (fun _ => 0))]) rfl ?_
  refine x_aload_n dx_V_init_17 rfl rfl ?_
  refine x_bipush dx_V_init_18 (by decide) ?_
  refine x_newI (N := 40) ka_int dx_V_init_20 (by decide) (by decide) (by decide) (by decide) (fun q20 => ?_)
  refine x_w (w' := [(b, .inr (2, [.ref nb, .ref q12, .null, .null, .null, .null, .null, .null, .null, .int (zI 0), .int (zI 0)])), (q12, ia (κ.2.2.1.2.2 0) 40 (fun _ => 0)), (q20, ia (κ.2.2.1.2.2 0) 40 (fun _ => 0))]) rfl ?_
  refine x_putF (j := 0) ff_V_19 hnm dx_V_init_22 rfl (Nat.le_of_ble_eq_true rfl) ?_
  refine x_w (w' := [(b, .inr (2, [.ref nb, .ref q12, .ref q20, .null, .null, .null, .null, .null, .null, .int (zI 0), .int (zI 0)])), (q12, ia (κ.2.2.1.2.2 0) 40 (fun _ => 0)), (q20, ia (κ.2.2.1.2.2 0) 40 (fun _ => 0))]) rfl ?_
  refine x_aload_n dx_V_init_25 rfl rfl ?_
  refine x_bipush dx_V_init_26 (by decide) ?_
  refine x_newI (N := 40) ka_int dx_V_init_28 (by decide) (by decide) (by decide) (by decide) (fun q28 => ?_)
  refine x_w (w' := [(b, .inr (2, [.ref nb, .ref q12, .ref q20, .null, .null, .null, .null, .null, .null, .int (zI 0), .int (zI 0)])), (q12, ia (κ.2.2.1.2.2 0) 40 (fun _ => 0)), (q20, ia (κ.2.2.1.2.2 0) 40 (fun _ => 0)), (q28, ia (κ.2.2.1.2.2 0) 40 (fun _ => 0))]) rfl ?_
  refine x_putF (j := 0) ff_V_22 hnm dx_V_init_30 rfl (Nat.le_of_ble_eq_true rfl) ?_
  refine x_w (w' := [(b, .inr (2, [.ref nb, .ref q12, .ref q20, .ref q28, .null, .null, .null, .null, .null, .int (zI 0), .int (zI 0)])), (q12, ia (κ.2.2.1.2.2 0) 40 (fun _ => 0)), (q20, ia (κ.2.2.1.2.2 0) 40 (fun _ => 0)), (q28, ia (κ.2.2.1.2.2 0) 40 (fun _ => 0))]) rfl ?_
  refine x_aload_n dx_V_init_33 rfl rfl ?_
  refine x_bipush dx_V_init_34 (by decide) ?_
  refine x_newI (N := 40) ka_int dx_V_init_36 (by decide) (by decide) (by decide) (by decide) (fun q36 => ?_)
  refine x_w (w' := [(b, .inr (2, [.ref nb, .ref q12, .ref q20, .ref q28, .null, .null, .null, .null, .null, .int (zI 0), .int (zI 0)])), (q12, ia (κ.2.2.1.2.2 0) 40 (fun _ => 0)), (q20, ia (κ.2.2.1.2.2 0) 40 (fun _ => 0)), (q28, ia (κ.2.2.1.2.2 0) 40 (fun _ => 0)), (q36, ia (κ.2.2.1.2.2 0) 40 (fun _ => 0))]) rfl ?_
  refine x_putF (j := 0) ff_V_25 hnm dx_V_init_38 rfl (Nat.le_of_ble_eq_true rfl) ?_
  refine x_w (w' := [(b, .inr (2, [.ref nb, .ref q12, .ref q20, .ref q28, .ref q36, .null, .null, .null, .null, .int (zI 0), .int (zI 0)])), (q12, ia (κ.2.2.1.2.2 0) 40 (fun _ => 0)), (q20, ia (κ.2.2.1.2.2 0) 40 (fun _ => 0)), (q28, ia (κ.2.2.1.2.2 0) 40 (fun _ => 0)), (q36, ia (κ.2.2.1.2.2 0) 40 (fun _ => 0))]) rfl ?_
  refine x_aload_n dx_V_init_41 rfl rfl ?_
  refine x_bipush dx_V_init_42 (by decide) ?_
  refine x_newI (N := 40) ka_int dx_V_init_44 (by decide) (by decide) (by decide) (by decide) (fun q44 => ?_)
  refine x_w (w' := [(b, .inr (2, [.ref nb, .ref q12, .ref q20, .ref q28, .ref q36, .null, .null, .null, .null, .int (zI 0), .int (zI 0)])), (q12, ia (κ.2.2.1.2.2 0) 40 (fun _ => 0)), (q20, ia (κ.2.2.1.2.2 0) 40 (fun _ => 0)), (q28, ia (κ.2.2.1.2.2 0) 40 (fun _ => 0)), (q36, ia (κ.2.2.1.2.2 0) 40 (fun _ => 0)), (q44, ia (κ.2.2.1.2.2 0) 40 (fun _ => 0))]) rfl ?_
  refine x_putF (j := 0) ff_V_28 hnm dx_V_init_46 rfl (Nat.le_of_ble_eq_true rfl) ?_
  refine x_w (w' := [(b, .inr (2, [.ref nb, .ref q12, .ref q20, .ref q28, .ref q36, .ref q44, .null, .null, .null, .int (zI 0), .int (zI 0)])), (q12, ia (κ.2.2.1.2.2 0) 40 (fun _ => 0)), (q20, ia (κ.2.2.1.2.2 0) 40 (fun _ => 0)), (q28, ia (κ.2.2.1.2.2 0) 40 (fun _ => 0)), (q36, ia (κ.2.2.1.2.2 0) 40 (fun _ => 0)), (q44, ia (κ.2.2.1.2.2 0) 40 (fun _ => 0))]) rfl ?_
  refine x_aload_n dx_V_init_49 rfl rfl ?_
  refine x_bipush dx_V_init_50 (by decide) ?_
  refine x_newI (N := 40) ka_int dx_V_init_52 (by decide) (by decide) (by decide) (by decide) (fun q52 => ?_)
  refine x_w (w' := [(b, .inr (2, [.ref nb, .ref q12, .ref q20, .ref q28, .ref q36, .ref q44, .null, .null, .null, .int (zI 0), .int (zI 0)])), (q12, ia (κ.2.2.1.2.2 0) 40 (fun _ => 0)), (q20, ia (κ.2.2.1.2.2 0) 40 (fun _ => 0)), (q28, ia (κ.2.2.1.2.2 0) 40 (fun _ => 0)), (q36, ia (κ.2.2.1.2.2 0) 40 (fun _ => 0)), (q44, ia (κ.2.2.1.2.2 0) 40 (fun _ => 0)), (q52, ia (κ.2.2.1.2.2 0) 40 (fun _ => 0))]) rfl ?_
  refine x_putF (j := 0) ff_V_31 hnm dx_V_init_54 rfl (Nat.le_of_ble_eq_true rfl) ?_
  refine x_w (w' := [(b, .inr (2, [.ref nb, .ref q12, .ref q20, .ref q28, .ref q36, .ref q44, .ref q52, .null, .null, .int (zI 0), .int (zI 0)])), (q12, ia (κ.2.2.1.2.2 0) 40 (fun _ => 0)), (q20, ia (κ.2.2.1.2.2 0) 40 (fun _ => 0)), (q28, ia (κ.2.2.1.2.2 0) 40 (fun _ => 0)), (q36, ia (κ.2.2.1.2.2 0) 40 (fun _ => 0)), (q44, ia (κ.2.2.1.2.2 0) 40 (fun _ => 0)), (q52, ia (κ.2.2.1.2.2 0) 40 (fun _ => 0))]) rfl ?_
  refine x_aload_n dx_V_init_57 rfl rfl ?_
  refine x_bipush dx_V_init_58 (by decide) ?_
  refine x_newJ (N := 40) ka_long dx_V_init_60 (by decide) (by decide) (by decide) (by decide) (fun q60 => ?_)
  refine x_w (w' := [(b, .inr (2, [.ref nb, .ref q12, .ref q20, .ref q28, .ref q36, .ref q44, .ref q52, .null, .null, .int (zI 0), .int (zI 0)])), (q12, ia (κ.2.2.1.2.2 0) 40 (fun _ => 0)), (q20, ia (κ.2.2.1.2.2 0) 40 (fun _ => 0)), (q28, ia (κ.2.2.1.2.2 0) 40 (fun _ => 0)), (q36, ia (κ.2.2.1.2.2 0) 40 (fun _ => 0)), (q44, ia (κ.2.2.1.2.2 0) 40 (fun _ => 0)), (q52, ia (κ.2.2.1.2.2 0) 40 (fun _ => 0)), (q60, la (κ.2.2.1.2.2 1) 40 (fun _ => 0))]) rfl ?_
  refine x_putF (j := 0) ff_V_34 hnm dx_V_init_62 rfl (Nat.le_of_ble_eq_true rfl) ?_
  refine x_w (w' := [(b, .inr (2, [.ref nb, .ref q12, .ref q20, .ref q28, .ref q36, .ref q44, .ref q52, .ref q60, .null, .int (zI 0), .int (zI 0)])), (q12, ia (κ.2.2.1.2.2 0) 40 (fun _ => 0)), (q20, ia (κ.2.2.1.2.2 0) 40 (fun _ => 0)), (q28, ia (κ.2.2.1.2.2 0) 40 (fun _ => 0)), (q36, ia (κ.2.2.1.2.2 0) 40 (fun _ => 0)), (q44, ia (κ.2.2.1.2.2 0) 40 (fun _ => 0)), (q52, ia (κ.2.2.1.2.2 0) 40 (fun _ => 0)), (q60, la (κ.2.2.1.2.2 1) 40 (fun _ => 0))]) rfl ?_
  refine x_aload_n dx_V_init_65 rfl rfl ?_
  refine x_bipush dx_V_init_66 (by decide) ?_
  refine x_newJ (N := 40) ka_long dx_V_init_68 (by decide) (by decide) (by decide) (by decide) (fun q68 => ?_)
  refine x_w (w' := [(b, .inr (2, [.ref nb, .ref q12, .ref q20, .ref q28, .ref q36, .ref q44, .ref q52, .ref q60, .null, .int (zI 0), .int (zI 0)])), (q12, ia (κ.2.2.1.2.2 0) 40 (fun _ => 0)), (q20, ia (κ.2.2.1.2.2 0) 40 (fun _ => 0)), (q28, ia (κ.2.2.1.2.2 0) 40 (fun _ => 0)), (q36, ia (κ.2.2.1.2.2 0) 40 (fun _ => 0)), (q44, ia (κ.2.2.1.2.2 0) 40 (fun _ => 0)), (q52, ia (κ.2.2.1.2.2 0) 40 (fun _ => 0)), (q60, la (κ.2.2.1.2.2 1) 40 (fun _ => 0)), (q68, la (κ.2.2.1.2.2 1) 40 (fun _ => 0))]) rfl ?_
  refine x_putF (j := 0) ff_V_38 hnm dx_V_init_70 rfl (Nat.le_of_ble_eq_true rfl) ?_
  refine x_w (w' := [(b, .inr (2, [.ref nb, .ref q12, .ref q20, .ref q28, .ref q36, .ref q44, .ref q52, .ref q60, .ref q68, .int (zI 0), .int (zI 0)])), (q12, ia (κ.2.2.1.2.2 0) 40 (fun _ => 0)), (q20, ia (κ.2.2.1.2.2 0) 40 (fun _ => 0)), (q28, ia (κ.2.2.1.2.2 0) 40 (fun _ => 0)), (q36, ia (κ.2.2.1.2.2 0) 40 (fun _ => 0)), (q44, ia (κ.2.2.1.2.2 0) 40 (fun _ => 0)), (q52, ia (κ.2.2.1.2.2 0) 40 (fun _ => 0)), (q60, la (κ.2.2.1.2.2 1) 40 (fun _ => 0)), (q68, la (κ.2.2.1.2.2 1) 40 (fun _ => 0))]) rfl ?_
  refine x_aload_n dx_V_init_73 rfl rfl ?_
  refine x_iconst dx_V_init_74 ?_
  refine x_putN (j := 0) fp_V_41 dx_V_init_75 rfl (Nat.le_of_ble_eq_true rfl) ?_
  refine x_w (w' := [(b, .inr (2, [.ref nb, .ref q12, .ref q20, .ref q28, .ref q36, .ref q44, .ref q52, .ref q60, .ref q68, .int (zI 0), .int (zI 0)])), (q12, ia (κ.2.2.1.2.2 0) 40 (fun _ => 0)), (q20, ia (κ.2.2.1.2.2 0) 40 (fun _ => 0)), (q28, ia (κ.2.2.1.2.2 0) 40 (fun _ => 0)), (q36, ia (κ.2.2.1.2.2 0) 40 (fun _ => 0)), (q44, ia (κ.2.2.1.2.2 0) 40 (fun _ => 0)), (q52, ia (κ.2.2.1.2.2 0) 40 (fun _ => 0)), (q60, la (κ.2.2.1.2.2 1) 40 (fun _ => 0)), (q68, la (κ.2.2.1.2.2 1) 40 (fun _ => 0))]) rfl ?_
  refine x_aload_n dx_V_init_78 rfl rfl ?_
  refine x_iconst dx_V_init_79 ?_
  refine x_putN (j := 0) fp_V_45 dx_V_init_80 rfl (Nat.le_of_ble_eq_true rfl) ?_
  refine x_w (w' := [(b, .inr (2, [.ref nb, .ref q12, .ref q20, .ref q28, .ref q36, .ref q44, .ref q52, .ref q60, .ref q68, .int (zI 0), .int (zI 0)])), (q12, ia (κ.2.2.1.2.2 0) 40 (fun _ => 0)), (q20, ia (κ.2.2.1.2.2 0) 40 (fun _ => 0)), (q28, ia (κ.2.2.1.2.2 0) 40 (fun _ => 0)), (q36, ia (κ.2.2.1.2.2 0) 40 (fun _ => 0)), (q44, ia (κ.2.2.1.2.2 0) 40 (fun _ => 0)), (q52, ia (κ.2.2.1.2.2 0) 40 (fun _ => 0)), (q60, la (κ.2.2.1.2.2 1) 40 (fun _ => 0)), (q68, la (κ.2.2.1.2.2 1) 40 (fun _ => 0))]) rfl ?_
  exact hret (fun k => match k with | 0 => b | 1 => q12 | 2 => q20 | 3 => q28 | 4 => q36 | 5 => q44 | 6 => q52 | 7 => q60 | 8 => q68 | _ => b) 83 _ rfl dx_V_init_83
set_option maxRecDepth 100000 in
set_option maxHeartbeats 4000000 in
theorem c_M_init {l : Launch} {D : va_G} {ca : Nat → ClassId} {b : Nat} : CC l mn_M_init kw_M_init (rmc 1 15 5240) 15 5240 D ca [.ref b] [(b, .inr (5, [.int (zI 0), .int (zI 0), .int (zI 0), .null, .null, .null, .null, .int (zI 0), .null, .null, .null, .null, .int (zI 0), .null, .null, .null, .null, .null, .null, .null]))] (fun ad : Nat → Nat => ad 0 = b) (fun ad => wg 16 LM ca ad z0) := by
  refine cc_in rc_M cd_M_init 1 rfl rfl (by decide) rfl (Nat.le_of_ble_eq_true rfl) (fun κ h1 h2 h3 hnm ho hret => ?_)
  subst h1; subst h2; subst h3
  refine x_lv [(0, .ref b)] rfl ?_
  refine x_aload_n dx_M_init_0 rfl rfl ?_
  refine x_obj km_M_1 dx_M_init_1 (by decide) (by decide) (by decide) ?_
  refine x_aload_n dx_M_init_4 rfl rfl ?_
  refine x_bipush dx_M_init_5 (by decide) ?_
  refine x_newI (N := 40) ka_int dx_M_init_7 (by decide) (by decide) (by decide) (by decide) (fun q7 => ?_)
  refine x_w (w' := [(b, .inr (5, [.int (zI 0), .int (zI 0), .int (zI 0), .null, .null, .null, .null, .int (zI 0), .null, .null, .null, .null, .int (zI 0), .null, .null, .null, .null, .null, .null, .null])), (q7, ia (κ.2.2.1.2.2 0) 40 (fun _ => 0))]) rfl ?_
  refine x_putF (j := 0) ff_M_7 hnm dx_M_init_9 rfl (Nat.le_of_ble_eq_true rfl) ?_
  refine x_w (w' := [(b, .inr (5, [.int (zI 0), .int (zI 0), .int (zI 0), .ref q7, .null, .null, .null, .int (zI 0), .null, .null, .null, .null, .int (zI 0), .null, .null, .null, .null, .null, .null, .null])), (q7, ia (κ.2.2.1.2.2 0) 40 (fun _ => 0))]) rfl ?_
  refine x_aload_n dx_M_init_12 rfl rfl ?_
  refine x_bipush dx_M_init_13 (by decide) ?_
  refine x_newI (N := 40) ka_int dx_M_init_15 (by decide) (by decide) (by decide) (by decide) (fun q15 => ?_)
  refine x_w (w' := [(b, .inr (5, [.int (zI 0), .int (zI 0), .int (zI 0), .ref q7, .null, .null, .null, .int (zI 0), .null, .null, .null, .null, .int (zI 0), .null, .null, .null, .null, .null, .null, .null])), (q7, ia (κ.2.2.1.2.2 0) 40 (fun _ => 0)), (q15, ia (κ.2.2.1.2.2 0) 40 (fun _ => 0))]) rfl ?_
  refine x_putF (j := 0) ff_M_13 hnm dx_M_init_17 rfl (Nat.le_of_ble_eq_true rfl) ?_
  refine x_w (w' := [(b, .inr (5, [.int (zI 0), .int (zI 0), .int (zI 0), .ref q7, .ref q15, .null, .null, .int (zI 0), .null, .null, .null, .null, .int (zI 0), .null, .null, .null, .null, .null, .null, .null])), (q7, ia (κ.2.2.1.2.2 0) 40 (fun _ => 0)), (q15, ia (κ.2.2.1.2.2 0) 40 (fun _ => 0))]) rfl ?_
  refine x_aload_n dx_M_init_20 rfl rfl ?_
  refine x_bipush dx_M_init_21 (by decide) ?_
  refine x_newI (N := 40) ka_int dx_M_init_23 (by decide) (by decide) (by decide) (by decide) (fun q23 => ?_)
  refine x_w (w' := [(b, .inr (5, [.int (zI 0), .int (zI 0), .int (zI 0), .ref q7, .ref q15, .null, .null, .int (zI 0), .null, .null, .null, .null, .int (zI 0), .null, .null, .null, .null, .null, .null, .null])), (q7, ia (κ.2.2.1.2.2 0) 40 (fun _ => 0)), (q15, ia (κ.2.2.1.2.2 0) 40 (fun _ => 0)), (q23, ia (κ.2.2.1.2.2 0) 40 (fun _ => 0))]) rfl ?_
  refine x_putF (j := 0) ff_M_16 hnm dx_M_init_25 rfl (Nat.le_of_ble_eq_true rfl) ?_
  refine x_w (w' := [(b, .inr (5, [.int (zI 0), .int (zI 0), .int (zI 0), .ref q7, .ref q15, .ref q23, .null, .int (zI 0), .null, .null, .null, .null, .int (zI 0), .null, .null, .null, .null, .null, .null, .null])), (q7, ia (κ.2.2.1.2.2 0) 40 (fun _ => 0)), (q15, ia (κ.2.2.1.2.2 0) 40 (fun _ => 0)), (q23, ia (κ.2.2.1.2.2 0) 40 (fun _ => 0))]) rfl ?_
  refine x_aload_n dx_M_init_28 rfl rfl ?_
  refine x_bipush dx_M_init_29 (by decide) ?_
  refine x_newI (N := 40) ka_int dx_M_init_31 (by decide) (by decide) (by decide) (by decide) (fun q31 => ?_)
  refine x_w (w' := [(b, .inr (5, [.int (zI 0), .int (zI 0), .int (zI 0), .ref q7, .ref q15, .ref q23, .null, .int (zI 0), .null, .null, .null, .null, .int (zI 0), .null, .null, .null, .null, .null, .null, .null])), (q7, ia (κ.2.2.1.2.2 0) 40 (fun _ => 0)), (q15, ia (κ.2.2.1.2.2 0) 40 (fun _ => 0)), (q23, ia (κ.2.2.1.2.2 0) 40 (fun _ => 0)), (q31, ia (κ.2.2.1.2.2 0) 40 (fun _ => 0))]) rfl ?_
  refine x_putF (j := 0) ff_M_19 hnm dx_M_init_33 rfl (Nat.le_of_ble_eq_true rfl) ?_
  refine x_w (w' := [(b, .inr (5, [.int (zI 0), .int (zI 0), .int (zI 0), .ref q7, .ref q15, .ref q23, .ref q31, .int (zI 0), .null, .null, .null, .null, .int (zI 0), .null, .null, .null, .null, .null, .null, .null])), (q7, ia (κ.2.2.1.2.2 0) 40 (fun _ => 0)), (q15, ia (κ.2.2.1.2.2 0) 40 (fun _ => 0)), (q23, ia (κ.2.2.1.2.2 0) 40 (fun _ => 0)), (q31, ia (κ.2.2.1.2.2 0) 40 (fun _ => 0))]) rfl ?_
  refine x_aload_n dx_M_init_36 rfl rfl ?_
  refine x_bipush dx_M_init_37 (by decide) ?_
  refine x_newI (N := 20) ka_int dx_M_init_39 (by decide) (by decide) (by decide) (by decide) (fun q39 => ?_)
  refine x_w (w' := [(b, .inr (5, [.int (zI 0), .int (zI 0), .int (zI 0), .ref q7, .ref q15, .ref q23, .ref q31, .int (zI 0), .null, .null, .null, .null, .int (zI 0), .null, .null, .null, .null, .null, .null, .null])), (q7, ia (κ.2.2.1.2.2 0) 40 (fun _ => 0)), (q15, ia (κ.2.2.1.2.2 0) 40 (fun _ => 0)), (q23, ia (κ.2.2.1.2.2 0) 40 (fun _ => 0)), (q31, ia (κ.2.2.1.2.2 0) 40 (fun _ => 0)), (q39, ia (κ.2.2.1.2.2 0) 20 (fun _ => 0))]) rfl ?_
  refine x_putF (j := 0) ff_M_22 hnm dx_M_init_41 rfl (Nat.le_of_ble_eq_true rfl) ?_
  refine x_w (w' := [(b, .inr (5, [.int (zI 0), .int (zI 0), .int (zI 0), .ref q7, .ref q15, .ref q23, .ref q31, .int (zI 0), .ref q39, .null, .null, .null, .int (zI 0), .null, .null, .null, .null, .null, .null, .null])), (q7, ia (κ.2.2.1.2.2 0) 40 (fun _ => 0)), (q15, ia (κ.2.2.1.2.2 0) 40 (fun _ => 0)), (q23, ia (κ.2.2.1.2.2 0) 40 (fun _ => 0)), (q31, ia (κ.2.2.1.2.2 0) 40 (fun _ => 0)), (q39, ia (κ.2.2.1.2.2 0) 20 (fun _ => 0))]) rfl ?_
  refine x_aload_n dx_M_init_44 rfl rfl ?_
  refine x_bipush dx_M_init_45 (by decide) ?_
  refine x_newI (N := 20) ka_int dx_M_init_47 (by decide) (by decide) (by decide) (by decide) (fun q47 => ?_)
  refine x_w (w' := [(b, .inr (5, [.int (zI 0), .int (zI 0), .int (zI 0), .ref q7, .ref q15, .ref q23, .ref q31, .int (zI 0), .ref q39, .null, .null, .null, .int (zI 0), .null, .null, .null, .null, .null, .null, .null])), (q7, ia (κ.2.2.1.2.2 0) 40 (fun _ => 0)), (q15, ia (κ.2.2.1.2.2 0) 40 (fun _ => 0)), (q23, ia (κ.2.2.1.2.2 0) 40 (fun _ => 0)), (q31, ia (κ.2.2.1.2.2 0) 40 (fun _ => 0)), (q39, ia (κ.2.2.1.2.2 0) 20 (fun _ => 0)), (q47, ia (κ.2.2.1.2.2 0) 20 (fun _ => 0))]) rfl ?_
  refine x_putF (j := 0) ff_M_25 hnm dx_M_init_49 rfl (Nat.le_of_ble_eq_true rfl) ?_
  refine x_w (w' := [(b, .inr (5, [.int (zI 0), .int (zI 0), .int (zI 0), .ref q7, .ref q15, .ref q23, .ref q31, .int (zI 0), .ref q39, .ref q47, .null, .null, .int (zI 0), .null, .null, .null, .null, .null, .null, .null])), (q7, ia (κ.2.2.1.2.2 0) 40 (fun _ => 0)), (q15, ia (κ.2.2.1.2.2 0) 40 (fun _ => 0)), (q23, ia (κ.2.2.1.2.2 0) 40 (fun _ => 0)), (q31, ia (κ.2.2.1.2.2 0) 40 (fun _ => 0)), (q39, ia (κ.2.2.1.2.2 0) 20 (fun _ => 0)), (q47, ia (κ.2.2.1.2.2 0) 20 (fun _ => 0))]) rfl ?_
  refine x_aload_n dx_M_init_52 rfl rfl ?_
  refine x_bipush dx_M_init_53 (by decide) ?_
  refine x_newI (N := 40) ka_int dx_M_init_55 (by decide) (by decide) (by decide) (by decide) (fun q55 => ?_)
  refine x_w (w' := [(b, .inr (5, [.int (zI 0), .int (zI 0), .int (zI 0), .ref q7, .ref q15, .ref q23, .ref q31, .int (zI 0), .ref q39, .ref q47, .null, .null, .int (zI 0), .null, .null, .null, .null, .null, .null, .null])), (q7, ia (κ.2.2.1.2.2 0) 40 (fun _ => 0)), (q15, ia (κ.2.2.1.2.2 0) 40 (fun _ => 0)), (q23, ia (κ.2.2.1.2.2 0) 40 (fun _ => 0)), (q31, ia (κ.2.2.1.2.2 0) 40 (fun _ => 0)), (q39, ia (κ.2.2.1.2.2 0) 20 (fun _ => 0)), (q47, ia (κ.2.2.1.2.2 0) 20 (fun _ => 0)), (q55, ia (κ.2.2.1.2.2 0) 40 (fun _ => 0))]) rfl ?_
  refine x_putF (j := 0) ff_M_28 hnm dx_M_init_57 rfl (Nat.le_of_ble_eq_true rfl) ?_
  refine x_w (w' := [(b, .inr (5, [.int (zI 0), .int (zI 0), .int (zI 0), .ref q7, .ref q15, .ref q23, .ref q31, .int (zI 0), .ref q39, .ref q47, .ref q55, .null, .int (zI 0), .null, .null, .null, .null, .null, .null, .null])), (q7, ia (κ.2.2.1.2.2 0) 40 (fun _ => 0)), (q15, ia (κ.2.2.1.2.2 0) 40 (fun _ => 0)), (q23, ia (κ.2.2.1.2.2 0) 40 (fun _ => 0)), (q31, ia (κ.2.2.1.2.2 0) 40 (fun _ => 0)), (q39, ia (κ.2.2.1.2.2 0) 20 (fun _ => 0)), (q47, ia (κ.2.2.1.2.2 0) 20 (fun _ => 0)), (q55, ia (κ.2.2.1.2.2 0) 40 (fun _ => 0))]) rfl ?_
  refine x_aload_n dx_M_init_60 rfl rfl ?_
  refine x_bipush dx_M_init_61 (by decide) ?_
  refine x_newI (N := 40) ka_int dx_M_init_63 (by decide) (by decide) (by decide) (by decide) (fun q63 => ?_)
  refine x_w (w' := [(b, .inr (5, [.int (zI 0), .int (zI 0), .int (zI 0), .ref q7, .ref q15, .ref q23, .ref q31, .int (zI 0), .ref q39, .ref q47, .ref q55, .null, .int (zI 0), .null, .null, .null, .null, .null, .null, .null])), (q7, ia (κ.2.2.1.2.2 0) 40 (fun _ => 0)), (q15, ia (κ.2.2.1.2.2 0) 40 (fun _ => 0)), (q23, ia (κ.2.2.1.2.2 0) 40 (fun _ => 0)), (q31, ia (κ.2.2.1.2.2 0) 40 (fun _ => 0)), (q39, ia (κ.2.2.1.2.2 0) 20 (fun _ => 0)), (q47, ia (κ.2.2.1.2.2 0) 20 (fun _ => 0)), (q55, ia (κ.2.2.1.2.2 0) 40 (fun _ => 0)), (q63, ia (κ.2.2.1.2.2 0) 40 (fun _ => 0))]) rfl ?_
  refine x_putF (j := 0) ff_M_31 hnm dx_M_init_65 rfl (Nat.le_of_ble_eq_true rfl) ?_
  refine x_w (w' := [(b, .inr (5, [.int (zI 0), .int (zI 0), .int (zI 0), .ref q7, .ref q15, .ref q23, .ref q31, .int (zI 0), .ref q39, .ref q47, .ref q55, .ref q63, .int (zI 0), .null, .null, .null, .null, .null, .null, .null])), (q7, ia (κ.2.2.1.2.2 0) 40 (fun _ => 0)), (q15, ia (κ.2.2.1.2.2 0) 40 (fun _ => 0)), (q23, ia (κ.2.2.1.2.2 0) 40 (fun _ => 0)), (q31, ia (κ.2.2.1.2.2 0) 40 (fun _ => 0)), (q39, ia (κ.2.2.1.2.2 0) 20 (fun _ => 0)), (q47, ia (κ.2.2.1.2.2 0) 20 (fun _ => 0)), (q55, ia (κ.2.2.1.2.2 0) 40 (fun _ => 0)), (q63, ia (κ.2.2.1.2.2 0) 40 (fun _ => 0))]) rfl ?_
  refine x_aload_n dx_M_init_68 rfl rfl ?_
  refine x_bipush dx_M_init_69 (by decide) ?_
  refine x_newJ (N := 40) ka_long dx_M_init_71 (by decide) (by decide) (by decide) (by decide) (fun q71 => ?_)
  refine x_w (w' := [(b, .inr (5, [.int (zI 0), .int (zI 0), .int (zI 0), .ref q7, .ref q15, .ref q23, .ref q31, .int (zI 0), .ref q39, .ref q47, .ref q55, .ref q63, .int (zI 0), .null, .null, .null, .null, .null, .null, .null])), (q7, ia (κ.2.2.1.2.2 0) 40 (fun _ => 0)), (q15, ia (κ.2.2.1.2.2 0) 40 (fun _ => 0)), (q23, ia (κ.2.2.1.2.2 0) 40 (fun _ => 0)), (q31, ia (κ.2.2.1.2.2 0) 40 (fun _ => 0)), (q39, ia (κ.2.2.1.2.2 0) 20 (fun _ => 0)), (q47, ia (κ.2.2.1.2.2 0) 20 (fun _ => 0)), (q55, ia (κ.2.2.1.2.2 0) 40 (fun _ => 0)), (q63, ia (κ.2.2.1.2.2 0) 40 (fun _ => 0)), (q71, la (κ.2.2.1.2.2 1) 40 (fun _ => 0))]) rfl ?_
  refine x_putF (j := 0) ff_M_34 hnm dx_M_init_73 rfl (Nat.le_of_ble_eq_true rfl) ?_
  refine x_w (w' := [(b, .inr (5, [.int (zI 0), .int (zI 0), .int (zI 0), .ref q7, .ref q15, .ref q23, .ref q31, .int (zI 0), .ref q39, .ref q47, .ref q55, .ref q63, .int (zI 0), .ref q71, .null, .null, .null, .null, .null, .null])), (q7, ia (κ.2.2.1.2.2 0) 40 (fun _ => 0)), (q15, ia (κ.2.2.1.2.2 0) 40 (fun _ => 0)), (q23, ia (κ.2.2.1.2.2 0) 40 (fun _ => 0)), (q31, ia (κ.2.2.1.2.2 0) 40 (fun _ => 0)), (q39, ia (κ.2.2.1.2.2 0) 20 (fun _ => 0)), (q47, ia (κ.2.2.1.2.2 0) 20 (fun _ => 0)), (q55, ia (κ.2.2.1.2.2 0) 40 (fun _ => 0)), (q63, ia (κ.2.2.1.2.2 0) 40 (fun _ => 0)), (q71, la (κ.2.2.1.2.2 1) 40 (fun _ => 0))]) rfl ?_
  refine x_aload_n dx_M_init_76 rfl rfl ?_
  refine x_bipush dx_M_init_77 (by decide) ?_
  refine x_newI (N := 40) ka_int dx_M_init_79 (by decide) (by decide) (by decide) (by decide) (fun q79 => ?_)
  refine x_w (w' := [(b, .inr (5, [.int (zI 0), .int (zI 0), .int (zI 0), .ref q7, .ref q15, .ref q23, .ref q31, .int (zI 0), .ref q39, .ref q47, .ref q55, .ref q63, .int (zI 0), .ref q71, .null, .null, .null, .null, .null, .null])), (q7, ia (κ.2.2.1.2.2 0) 40 (fun _ => 0)), (q15, ia (κ.2.2.1.2.2 0) 40 (fun _ => 0)), (q23, ia (κ.2.2.1.2.2 0) 40 (fun _ => 0)), (q31, ia (κ.2.2.1.2.2 0) 40 (fun _ => 0)), (q39, ia (κ.2.2.1.2.2 0) 20 (fun _ => 0)), (q47, ia (κ.2.2.1.2.2 0) 20 (fun _ => 0)), (q55, ia (κ.2.2.1.2.2 0) 40 (fun _ => 0)), (q63, ia (κ.2.2.1.2.2 0) 40 (fun _ => 0)), (q71, la (κ.2.2.1.2.2 1) 40 (fun _ => 0)), (q79, ia (κ.2.2.1.2.2 0) 40 (fun _ => 0))]) rfl ?_
  refine x_putF (j := 0) ff_M_38 hnm dx_M_init_81 rfl (Nat.le_of_ble_eq_true rfl) ?_
  refine x_w (w' := [(b, .inr (5, [.int (zI 0), .int (zI 0), .int (zI 0), .ref q7, .ref q15, .ref q23, .ref q31, .int (zI 0), .ref q39, .ref q47, .ref q55, .ref q63, .int (zI 0), .ref q71, .ref q79, .null, .null, .null, .null, .null])), (q7, ia (κ.2.2.1.2.2 0) 40 (fun _ => 0)), (q15, ia (κ.2.2.1.2.2 0) 40 (fun _ => 0)), (q23, ia (κ.2.2.1.2.2 0) 40 (fun _ => 0)), (q31, ia (κ.2.2.1.2.2 0) 40 (fun _ => 0)), (q39, ia (κ.2.2.1.2.2 0) 20 (fun _ => 0)), (q47, ia (κ.2.2.1.2.2 0) 20 (fun _ => 0)), (q55, ia (κ.2.2.1.2.2 0) 40 (fun _ => 0)), (q63, ia (κ.2.2.1.2.2 0) 40 (fun _ => 0)), (q71, la (κ.2.2.1.2.2 1) 40 (fun _ => 0)), (q79, ia (κ.2.2.1.2.2 0) 40 (fun _ => 0))]) rfl ?_
  refine x_aload_n dx_M_init_84 rfl rfl ?_
  refine x_bipush dx_M_init_85 (by decide) ?_
  refine x_newJ (N := 40) ka_long dx_M_init_87 (by decide) (by decide) (by decide) (by decide) (fun q87 => ?_)
  refine x_w (w' := [(b, .inr (5, [.int (zI 0), .int (zI 0), .int (zI 0), .ref q7, .ref q15, .ref q23, .ref q31, .int (zI 0), .ref q39, .ref q47, .ref q55, .ref q63, .int (zI 0), .ref q71, .ref q79, .null, .null, .null, .null, .null])), (q7, ia (κ.2.2.1.2.2 0) 40 (fun _ => 0)), (q15, ia (κ.2.2.1.2.2 0) 40 (fun _ => 0)), (q23, ia (κ.2.2.1.2.2 0) 40 (fun _ => 0)), (q31, ia (κ.2.2.1.2.2 0) 40 (fun _ => 0)), (q39, ia (κ.2.2.1.2.2 0) 20 (fun _ => 0)), (q47, ia (κ.2.2.1.2.2 0) 20 (fun _ => 0)), (q55, ia (κ.2.2.1.2.2 0) 40 (fun _ => 0)), (q63, ia (κ.2.2.1.2.2 0) 40 (fun _ => 0)), (q71, la (κ.2.2.1.2.2 1) 40 (fun _ => 0)), (q79, ia (κ.2.2.1.2.2 0) 40 (fun _ => 0)), (q87, la (κ.2.2.1.2.2 1) 40 (fun _ => 0))]) rfl ?_
  refine x_putF (j := 0) ff_M_41 hnm dx_M_init_89 rfl (Nat.le_of_ble_eq_true rfl) ?_
  refine x_w (w' := [(b, .inr (5, [.int (zI 0), .int (zI 0), .int (zI 0), .ref q7, .ref q15, .ref q23, .ref q31, .int (zI 0), .ref q39, .ref q47, .ref q55, .ref q63, .int (zI 0), .ref q71, .ref q79, .ref q87, .null, .null, .null, .null])), (q7, ia (κ.2.2.1.2.2 0) 40 (fun _ => 0)), (q15, ia (κ.2.2.1.2.2 0) 40 (fun _ => 0)), (q23, ia (κ.2.2.1.2.2 0) 40 (fun _ => 0)), (q31, ia (κ.2.2.1.2.2 0) 40 (fun _ => 0)), (q39, ia (κ.2.2.1.2.2 0) 20 (fun _ => 0)), (q47, ia (κ.2.2.1.2.2 0) 20 (fun _ => 0)), (q55, ia (κ.2.2.1.2.2 0) 40 (fun _ => 0)), (q63, ia (κ.2.2.1.2.2 0) 40 (fun _ => 0)), (q71, la (κ.2.2.1.2.2 1) 40 (fun _ => 0)), (q79, ia (κ.2.2.1.2.2 0) 40 (fun _ => 0)), (q87, la (κ.2.2.1.2.2 1) 40 (fun _ => 0))]) rfl ?_
  refine x_aload_n dx_M_init_92 rfl rfl ?_
  refine x_sipush dx_M_init_93 (by decide) ?_
  refine x_newZ (N := 1600) ka_boolean dx_M_init_96 (by decide) (by decide) (by decide) (by decide) (fun q96 => ?_)
  refine x_w (w' := [(b, .inr (5, [.int (zI 0), .int (zI 0), .int (zI 0), .ref q7, .ref q15, .ref q23, .ref q31, .int (zI 0), .ref q39, .ref q47, .ref q55, .ref q63, .int (zI 0), .ref q71, .ref q79, .ref q87, .null, .null, .null, .null])), (q7, ia (κ.2.2.1.2.2 0) 40 (fun _ => 0)), (q15, ia (κ.2.2.1.2.2 0) 40 (fun _ => 0)), (q23, ia (κ.2.2.1.2.2 0) 40 (fun _ => 0)), (q31, ia (κ.2.2.1.2.2 0) 40 (fun _ => 0)), (q39, ia (κ.2.2.1.2.2 0) 20 (fun _ => 0)), (q47, ia (κ.2.2.1.2.2 0) 20 (fun _ => 0)), (q55, ia (κ.2.2.1.2.2 0) 40 (fun _ => 0)), (q63, ia (κ.2.2.1.2.2 0) 40 (fun _ => 0)), (q71, la (κ.2.2.1.2.2 1) 40 (fun _ => 0)), (q79, ia (κ.2.2.1.2.2 0) 40 (fun _ => 0)), (q87, la (κ.2.2.1.2.2 1) 40 (fun _ => 0)), (q96, ia (κ.2.2.1.2.2 2) 1600 (fun _ => 0))]) rfl ?_
  refine x_putF (j := 0) ff_M_44 hnm dx_M_init_98 rfl (Nat.le_of_ble_eq_true rfl) ?_
  refine x_w (w' := [(b, .inr (5, [.int (zI 0), .int (zI 0), .int (zI 0), .ref q7, .ref q15, .ref q23, .ref q31, .int (zI 0), .ref q39, .ref q47, .ref q55, .ref q63, .int (zI 0), .ref q71, .ref q79, .ref q87, .ref q96, .null, .null, .null])), (q7, ia (κ.2.2.1.2.2 0) 40 (fun _ => 0)), (q15, ia (κ.2.2.1.2.2 0) 40 (fun _ => 0)), (q23, ia (κ.2.2.1.2.2 0) 40 (fun _ => 0)), (q31, ia (κ.2.2.1.2.2 0) 40 (fun _ => 0)), (q39, ia (κ.2.2.1.2.2 0) 20 (fun _ => 0)), (q47, ia (κ.2.2.1.2.2 0) 20 (fun _ => 0)), (q55, ia (κ.2.2.1.2.2 0) 40 (fun _ => 0)), (q63, ia (κ.2.2.1.2.2 0) 40 (fun _ => 0)), (q71, la (κ.2.2.1.2.2 1) 40 (fun _ => 0)), (q79, ia (κ.2.2.1.2.2 0) 40 (fun _ => 0)), (q87, la (κ.2.2.1.2.2 1) 40 (fun _ => 0)), (q96, ia (κ.2.2.1.2.2 2) 1600 (fun _ => 0))]) rfl ?_
  refine x_aload_n dx_M_init_101 rfl rfl ?_
  refine x_sipush dx_M_init_102 (by decide) ?_
  refine x_newI (N := 1600) ka_int dx_M_init_105 (by decide) (by decide) (by decide) (by decide) (fun q105 => ?_)
  refine x_w (w' := [(b, .inr (5, [.int (zI 0), .int (zI 0), .int (zI 0), .ref q7, .ref q15, .ref q23, .ref q31, .int (zI 0), .ref q39, .ref q47, .ref q55, .ref q63, .int (zI 0), .ref q71, .ref q79, .ref q87, .ref q96, .null, .null, .null])), (q7, ia (κ.2.2.1.2.2 0) 40 (fun _ => 0)), (q15, ia (κ.2.2.1.2.2 0) 40 (fun _ => 0)), (q23, ia (κ.2.2.1.2.2 0) 40 (fun _ => 0)), (q31, ia (κ.2.2.1.2.2 0) 40 (fun _ => 0)), (q39, ia (κ.2.2.1.2.2 0) 20 (fun _ => 0)), (q47, ia (κ.2.2.1.2.2 0) 20 (fun _ => 0)), (q55, ia (κ.2.2.1.2.2 0) 40 (fun _ => 0)), (q63, ia (κ.2.2.1.2.2 0) 40 (fun _ => 0)), (q71, la (κ.2.2.1.2.2 1) 40 (fun _ => 0)), (q79, ia (κ.2.2.1.2.2 0) 40 (fun _ => 0)), (q87, la (κ.2.2.1.2.2 1) 40 (fun _ => 0)), (q96, ia (κ.2.2.1.2.2 2) 1600 (fun _ => 0)), (q105, ia (κ.2.2.1.2.2 0) 1600 (fun _ => 0))]) rfl ?_
  refine x_putF (j := 0) ff_M_48 hnm dx_M_init_107 rfl (Nat.le_of_ble_eq_true rfl) ?_
  refine x_w (w' := [(b, .inr (5, [.int (zI 0), .int (zI 0), .int (zI 0), .ref q7, .ref q15, .ref q23, .ref q31, .int (zI 0), .ref q39, .ref q47, .ref q55, .ref q63, .int (zI 0), .ref q71, .ref q79, .ref q87, .ref q96, .ref q105, .null, .null])), (q7, ia (κ.2.2.1.2.2 0) 40 (fun _ => 0)), (q15, ia (κ.2.2.1.2.2 0) 40 (fun _ => 0)), (q23, ia (κ.2.2.1.2.2 0) 40 (fun _ => 0)), (q31, ia (κ.2.2.1.2.2 0) 40 (fun _ => 0)), (q39, ia (κ.2.2.1.2.2 0) 20 (fun _ => 0)), (q47, ia (κ.2.2.1.2.2 0) 20 (fun _ => 0)), (q55, ia (κ.2.2.1.2.2 0) 40 (fun _ => 0)), (q63, ia (κ.2.2.1.2.2 0) 40 (fun _ => 0)), (q71, la (κ.2.2.1.2.2 1) 40 (fun _ => 0)), (q79, ia (κ.2.2.1.2.2 0) 40 (fun _ => 0)), (q87, la (κ.2.2.1.2.2 1) 40 (fun _ => 0)), (q96, ia (κ.2.2.1.2.2 2) 1600 (fun _ => 0)), (q105, ia (κ.2.2.1.2.2 0) 1600 (fun _ => 0))]) rfl ?_
  refine x_aload_n dx_M_init_110 rfl rfl ?_
  refine x_sipush dx_M_init_111 (by decide) ?_
  refine x_newJ (N := 1600) ka_long dx_M_init_114 (by decide) (by decide) (by decide) (by decide) (fun q114 => ?_)
  refine x_w (w' := [(b, .inr (5, [.int (zI 0), .int (zI 0), .int (zI 0), .ref q7, .ref q15, .ref q23, .ref q31, .int (zI 0), .ref q39, .ref q47, .ref q55, .ref q63, .int (zI 0), .ref q71, .ref q79, .ref q87, .ref q96, .ref q105, .null, .null])), (q7, ia (κ.2.2.1.2.2 0) 40 (fun _ => 0)), (q15, ia (κ.2.2.1.2.2 0) 40 (fun _ => 0)), (q23, ia (κ.2.2.1.2.2 0) 40 (fun _ => 0)), (q31, ia (κ.2.2.1.2.2 0) 40 (fun _ => 0)), (q39, ia (κ.2.2.1.2.2 0) 20 (fun _ => 0)), (q47, ia (κ.2.2.1.2.2 0) 20 (fun _ => 0)), (q55, ia (κ.2.2.1.2.2 0) 40 (fun _ => 0)), (q63, ia (κ.2.2.1.2.2 0) 40 (fun _ => 0)), (q71, la (κ.2.2.1.2.2 1) 40 (fun _ => 0)), (q79, ia (κ.2.2.1.2.2 0) 40 (fun _ => 0)), (q87, la (κ.2.2.1.2.2 1) 40 (fun _ => 0)), (q96, ia (κ.2.2.1.2.2 2) 1600 (fun _ => 0)), (q105, ia (κ.2.2.1.2.2 0) 1600 (fun _ => 0)), (q114, la (κ.2.2.1.2.2 1) 1600 (fun _ => 0))]) rfl ?_
  refine x_putF (j := 0) ff_M_51 hnm dx_M_init_116 rfl (Nat.le_of_ble_eq_true rfl) ?_
  refine x_w (w' := [(b, .inr (5, [.int (zI 0), .int (zI 0), .int (zI 0), .ref q7, .ref q15, .ref q23, .ref q31, .int (zI 0), .ref q39, .ref q47, .ref q55, .ref q63, .int (zI 0), .ref q71, .ref q79, .ref q87, .ref q96, .ref q105, .ref q114, .null])), (q7, ia (κ.2.2.1.2.2 0) 40 (fun _ => 0)), (q15, ia (κ.2.2.1.2.2 0) 40 (fun _ => 0)), (q23, ia (κ.2.2.1.2.2 0) 40 (fun _ => 0)), (q31, ia (κ.2.2.1.2.2 0) 40 (fun _ => 0)), (q39, ia (κ.2.2.1.2.2 0) 20 (fun _ => 0)), (q47, ia (κ.2.2.1.2.2 0) 20 (fun _ => 0)), (q55, ia (κ.2.2.1.2.2 0) 40 (fun _ => 0)), (q63, ia (κ.2.2.1.2.2 0) 40 (fun _ => 0)), (q71, la (κ.2.2.1.2.2 1) 40 (fun _ => 0)), (q79, ia (κ.2.2.1.2.2 0) 40 (fun _ => 0)), (q87, la (κ.2.2.1.2.2 1) 40 (fun _ => 0)), (q96, ia (κ.2.2.1.2.2 2) 1600 (fun _ => 0)), (q105, ia (κ.2.2.1.2.2 0) 1600 (fun _ => 0)), (q114, la (κ.2.2.1.2.2 1) 1600 (fun _ => 0))]) rfl ?_
  refine x_aload_n dx_M_init_119 rfl rfl ?_
  refine x_bipush dx_M_init_120 (by decide) ?_
  refine x_newI (N := 40) ka_int dx_M_init_122 (by decide) (by decide) (by decide) (by decide) (fun q122 => ?_)
  refine x_w (w' := [(b, .inr (5, [.int (zI 0), .int (zI 0), .int (zI 0), .ref q7, .ref q15, .ref q23, .ref q31, .int (zI 0), .ref q39, .ref q47, .ref q55, .ref q63, .int (zI 0), .ref q71, .ref q79, .ref q87, .ref q96, .ref q105, .ref q114, .null])), (q7, ia (κ.2.2.1.2.2 0) 40 (fun _ => 0)), (q15, ia (κ.2.2.1.2.2 0) 40 (fun _ => 0)), (q23, ia (κ.2.2.1.2.2 0) 40 (fun _ => 0)), (q31, ia (κ.2.2.1.2.2 0) 40 (fun _ => 0)), (q39, ia (κ.2.2.1.2.2 0) 20 (fun _ => 0)), (q47, ia (κ.2.2.1.2.2 0) 20 (fun _ => 0)), (q55, ia (κ.2.2.1.2.2 0) 40 (fun _ => 0)), (q63, ia (κ.2.2.1.2.2 0) 40 (fun _ => 0)), (q71, la (κ.2.2.1.2.2 1) 40 (fun _ => 0)), (q79, ia (κ.2.2.1.2.2 0) 40 (fun _ => 0)), (q87, la (κ.2.2.1.2.2 1) 40 (fun _ => 0)), (q96, ia (κ.2.2.1.2.2 2) 1600 (fun _ => 0)), (q105, ia (κ.2.2.1.2.2 0) 1600 (fun _ => 0)), (q114, la (κ.2.2.1.2.2 1) 1600 (fun _ => 0)), (q122, ia (κ.2.2.1.2.2 0) 40 (fun _ => 0))]) rfl ?_
  refine x_putF (j := 0) ff_M_54 hnm dx_M_init_124 rfl (Nat.le_of_ble_eq_true rfl) ?_
  refine x_w (w' := [(b, .inr (5, [.int (zI 0), .int (zI 0), .int (zI 0), .ref q7, .ref q15, .ref q23, .ref q31, .int (zI 0), .ref q39, .ref q47, .ref q55, .ref q63, .int (zI 0), .ref q71, .ref q79, .ref q87, .ref q96, .ref q105, .ref q114, .ref q122])), (q7, ia (κ.2.2.1.2.2 0) 40 (fun _ => 0)), (q15, ia (κ.2.2.1.2.2 0) 40 (fun _ => 0)), (q23, ia (κ.2.2.1.2.2 0) 40 (fun _ => 0)), (q31, ia (κ.2.2.1.2.2 0) 40 (fun _ => 0)), (q39, ia (κ.2.2.1.2.2 0) 20 (fun _ => 0)), (q47, ia (κ.2.2.1.2.2 0) 20 (fun _ => 0)), (q55, ia (κ.2.2.1.2.2 0) 40 (fun _ => 0)), (q63, ia (κ.2.2.1.2.2 0) 40 (fun _ => 0)), (q71, la (κ.2.2.1.2.2 1) 40 (fun _ => 0)), (q79, ia (κ.2.2.1.2.2 0) 40 (fun _ => 0)), (q87, la (κ.2.2.1.2.2 1) 40 (fun _ => 0)), (q96, ia (κ.2.2.1.2.2 2) 1600 (fun _ => 0)), (q105, ia (κ.2.2.1.2.2 0) 1600 (fun _ => 0)), (q114, la (κ.2.2.1.2.2 1) 1600 (fun _ => 0)), (q122, ia (κ.2.2.1.2.2 0) 40 (fun _ => 0))]) rfl ?_
  exact hret (fun k => match k with | 0 => b | 1 => q7 | 2 => q15 | 3 => q23 | 4 => q31 | 5 => q39 | 6 => q47 | 7 => q55 | 8 => q63 | 9 => q71 | 10 => q79 | 11 => q87 | 12 => q96 | 13 => q105 | 14 => q114 | 15 => q122 | _ => b) 127 _ rfl dx_M_init_127
