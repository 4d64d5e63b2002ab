def LP9 (nb : Nat) (r : Nat → Nat) : Ly := (fun k => if k = 0 ∨ k = 2 then (3, 0) else (1, 40), fun ca ad k _ => if k = 0 then .inr (3, [.ref nb, .ref (ad 1), .ref (ad 2)]) else ga (ca 4) 40 r)
def LE9 (nb : Nat) (r : Nat → Nat) : Ly := (fun k => if k < 2 then (3, 0) else if k < 23 then (0, 40) else (0, 80), fun ca ad k I => if k = 0 then .inr (1, [.ref nb, .ref (ad 1), .ref (ad 23), .ref (ad 24), .int (zI (I 1)), .int (zI (I 2))]) else ga (ca 3) 21 r)
def idf (x : Int) : Int → Int := fun j => if 0 ≤ j ∧ j < x then j else 0
theorem idf_next {x : Int} (h : 0 ≤ x) : ui (idf x) x x = idf (x + 1) := by
  funext j
  unfold ui idf
  by_cases c : j = x
  · rw [if_pos c, if_pos (by omega), c]
  · rw [if_neg c]
    by_cases d : 0 ≤ j ∧ j < x
    · rw [if_pos d, if_pos (by omega)]
    · rw [if_neg d, if_neg (by omega)]
theorem idf_0 : idf 0 = fun _ => 0 := by
  funext j
  exact if_neg (by omega)
def sE0 : S0 := stR z0 2 (idf 40)
set_option maxRecDepth 100000 in
set_option maxHeartbeats 4000000 in
theorem c_P_init {l : Launch} {D : va_G} {ca : Nat → ClassId} {b nb : Nat} : CC l mn_P_init kw_P_init (rmc 1 42 1680) 42 1680 D ca [.ref b, .ref nb] [(b, .inr (3, [.null, .null, .null]))] (fun p : (Nat → Nat) × (Nat → Nat) => p.1 0 = b ∧ ∀ i, i < 40 → p.1 (3 + i) = p.2 i) (fun p => wg 43 (LP9 nb p.2) ca p.1 z0) := by
  refine cc_in rc_P cd_P_init 2 rfl rfl (by decide) rfl (Nat.le_of_ble_eq_true rfl) (fun κ h1 h2 h3 hnm ho hret => ?_)
  subst h1; subst h2; subst h3
  refine x_lv [(0, .ref b), (1, .ref nb)] rfl ?_
  refine x_aload_n dx_P_init_0 rfl rfl ?_
  refine x_obj km_P_3 dx_P_init_1 (by decide) (by decide) (by decide) ?_
  refine x_aload_n dx_P_init_4 rfl rfl ?_
  refine x_aload_n dx_P_init_5 rfl rfl ?_
  refine x_putF (j := 0) ff_P_9 hnm dx_P_init_6 rfl (Nat.le_of_ble_eq_true rfl) ?_
  refine x_w (w' := [(b, .inr (3, [.ref nb, .null, .null]))]) rfl ?_
  refine x_aload_n dx_P_init_9 rfl rfl ?_
  refine x_bipush dx_P_init_10 (by decide) ?_
  refine x_newJ (N := 40) ka_long dx_P_init_12 (by decide) (by decide) (by decide) (by decide) (fun q12 => ?_)
  refine x_w (w' := [(b, .inr (3, [.ref nb, .null, .null])), (q12, la (κ.2.2.1.2.2 1) 40 (fun _ => 0))]) rfl ?_
  refine x_putF (j := 0) ff_P_15 hnm dx_P_init_14 rfl (Nat.le_of_ble_eq_true rfl) ?_
  refine x_w (w' := [(b, .inr (3, [.ref nb, .ref q12, .null])), (q12, la (κ.2.2.1.2.2 1) 40 (fun _ => 0))]) rfl ?_
  refine x_aload_n dx_P_init_17 rfl rfl ?_
  refine x_bipush dx_P_init_18 (by decide) ?_
  refine x_bipush dx_P_init_20 (by decide) ?_
  refine x_mnaJ (N := 40) (K := 40) ho ka_long kl_P_19 dx_P_init_22 (by decide) (by decide) (by decide) (by decide) (fun q22 r => ?_)
  refine x_w (w' := ([(b, .inr (3, [.ref nb, .ref q12, .null])), (q12, la (κ.2.2.1.2.2 1) 40 (fun _ => 0)), (q22, ga (κ.2.2.1.2.2 4) 40 r)] ++ rws 40 r (la (κ.2.2.1.2.2 1) 40 (fun _ => 0)))) rfl ?_
  refine x_putF (j := 0) ff_P_21 hnm dx_P_init_26 rfl (Nat.le_of_ble_eq_true rfl) ?_
  refine x_w (w' := ([(b, .inr (3, [.ref nb, .ref q12, .ref q22])), (q12, la (κ.2.2.1.2.2 1) 40 (fun _ => 0)), (q22, ga (κ.2.2.1.2.2 4) 40 r)] ++ rws 40 r (la (κ.2.2.1.2.2 1) 40 (fun _ => 0)))) rfl ?_
  exact hret (fun k => if k = 0 then b else if k = 1 then q12 else if k = 2 then q22 else r (k - 3), r) 29 _ ⟨rfl, fun i hi => by dsimp only; rw [if_neg (by omega), if_neg (by omega), if_neg (by omega), Nat.add_sub_cancel_left]⟩ dx_P_init_29
set_option maxRecDepth 100000 in
set_option maxHeartbeats 4000000 in
theorem c_E_init {l : Launch} {D : va_G} {ca : Nat → ClassId} {b nb : Nat} : CC l mn_E_init kw_E_init (rmc 1 24 1021) 24 1021 D ca [.ref b, .ref nb] [(b, .inr (1, [.null, .null, .null, .null, .int (zI 0), .int (zI 0)]))] (fun p : (Nat → Nat) × (Nat → Nat) => p.1 0 = b ∧ ∀ i, i < 21 → p.1 (2 + i) = p.2 i) (fun p => wg 25 (LE9 nb p.2) ca p.1 sE0) := by
  refine cc_in rc_E cd_E_init 3 rfl rfl (by decide) rfl (Nat.le_of_ble_eq_true rfl) (fun κ h1 h2 h3 hnm ho hret => ?_)
  subst h1; subst h2; subst h3
  refine x_lv [(0, .ref b), (1, .ref nb)] rfl ?_
  refine x_aload_n dx_E_init_0 rfl rfl ?_
  refine x_obj km_E_3 dx_E_init_1 (by decide) (by decide) (by decide) ?_
  refine x_aload_n dx_E_init_4 rfl rfl ?_
  refine x_aload_n dx_E_init_5 rfl rfl ?_
  refine x_putF (j := 0) ff_E_9 hnm dx_E_init_6 rfl (Nat.le_of_ble_eq_true rfl) ?_
  refine x_w (w' := [(b, .inr (1, [.ref nb, .null, .null, .null, .int (zI 0), .int (zI 0)]))]) rfl ?_
  refine x_aload_n dx_E_init_9 rfl rfl ?_
  refine x_bipush dx_E_init_10 (by decide) ?_
  refine x_bipush dx_E_init_12 (by decide) ?_
  refine x_mnaI (N := 21) (K := 40) ho ka_int kl_E_15 dx_E_init_14 (by decide) (by decide) (by decide) (by decide) (fun q14 r => ?_)
  refine x_w (w' := ([(b, .inr (1, [.ref nb, .null, .null, .null, .int (zI 0), .int (zI 0)])), (q14, ga (κ.2.2.1.2.2 3) 21 r)] ++ rws 21 r (ia (κ.2.2.1.2.2 0) 40 (fun _ => 0)))) rfl ?_
  refine x_putF (j := 0) ff_E_17 hnm dx_E_init_18 rfl (Nat.le_of_ble_eq_true rfl) ?_
  refine x_w (w' := ([(b, .inr (1, [.ref nb, .ref q14, .null, .null, .int (zI 0), .int (zI 0)])), (q14, ga (κ.2.2.1.2.2 3) 21 r)] ++ rws 21 r (ia (κ.2.2.1.2.2 0) 40 (fun _ => 0)))) rfl ?_
  refine x_aload_n dx_E_init_21 rfl rfl ?_
  refine x_bipush dx_E_init_22 (by decide) ?_
  refine x_newI (N := 80) ka_int dx_E_init_24 (by decide) (by decide) (by decide) (by decide) (fun q24 => ?_)
  refine x_w (w' := (([(b, .inr (1, [.ref nb, .ref q14, .null, .null, .int (zI 0), .int (zI 0)])), (q14, ga (κ.2.2.1.2.2 3) 21 r)] ++ rws 21 r (ia (κ.2.2.1.2.2 0) 40 (fun _ => 0))) ++ [(q24, ia (κ.2.2.1.2.2 0) 80 (fun _ => 0))])) rfl ?_
  refine x_putF (j := 0) ff_E_20 hnm dx_E_init_26 rfl (Nat.le_of_ble_eq_true rfl) ?_
  refine x_w (w' := (([(b, .inr (1, [.ref nb, .ref q14, .ref q24, .null, .int (zI 0), .int (zI 0)])), (q14, ga (κ.2.2.1.2.2 3) 21 r)] ++ rws 21 r (ia (κ.2.2.1.2.2 0) 40 (fun _ => 0))) ++ [(q24, ia (κ.2.2.1.2.2 0) 80 (fun _ => 0))])) rfl ?_
  refine x_aload_n dx_E_init_29 rfl rfl ?_
  refine x_bipush dx_E_init_30 (by decide) ?_
  refine x_newI (N := 80) ka_int dx_E_init_32 (by decide) (by decide) (by decide) (by decide) (fun q32 => ?_)
  refine x_w (w' := (([(b, .inr (1, [.ref nb, .ref q14, .ref q24, .null, .int (zI 0), .int (zI 0)])), (q14, ga (κ.2.2.1.2.2 3) 21 r)] ++ rws 21 r (ia (κ.2.2.1.2.2 0) 40 (fun _ => 0))) ++ [(q24, ia (κ.2.2.1.2.2 0) 80 (fun _ => 0)), (q32, ia (κ.2.2.1.2.2 0) 80 (fun _ => 0))])) rfl ?_
  refine x_putF (j := 0) ff_E_24 hnm dx_E_init_34 rfl (Nat.le_of_ble_eq_true rfl) ?_
  refine x_w (w' := (([(b, .inr (1, [.ref nb, .ref q14, .ref q24, .ref q32, .int (zI 0), .int (zI 0)])), (q14, ga (κ.2.2.1.2.2 3) 21 r)] ++ rws 21 r (ia (κ.2.2.1.2.2 0) 40 (fun _ => 0))) ++ [(q24, ia (κ.2.2.1.2.2 0) 80 (fun _ => 0)), (q32, ia (κ.2.2.1.2.2 0) 80 (fun _ => 0))])) rfl ?_
  refine x_aload_n dx_E_init_37 rfl rfl ?_
  refine x_iconst dx_E_init_38 ?_
  refine x_putN (j := 0) fp_E_27 dx_E_init_39 rfl (Nat.le_of_ble_eq_true rfl) ?_
  refine x_w (w' := (([(b, .inr (1, [.ref nb, .ref q14, .ref q24, .ref q32, .int (zI 0), .int (zI 0)])), (q14, ga (κ.2.2.1.2.2 3) 21 r)] ++ rws 21 r (ia (κ.2.2.1.2.2 0) 40 (fun _ => 0))) ++ [(q24, ia (κ.2.2.1.2.2 0) 80 (fun _ => 0)), (q32, ia (κ.2.2.1.2.2 0) 80 (fun _ => 0))])) rfl ?_
  refine x_aload_n dx_E_init_42 rfl rfl ?_
  refine x_iconst dx_E_init_43 ?_
  refine x_putN (j := 0) fp_E_31 dx_E_init_44 rfl (Nat.le_of_ble_eq_true rfl) ?_
  refine x_w (w' := (([(b, .inr (1, [.ref nb, .ref q14, .ref q24, .ref q32, .int (zI 0), .int (zI 0)])), (q14, ga (κ.2.2.1.2.2 3) 21 r)] ++ rws 21 r (ia (κ.2.2.1.2.2 0) 40 (fun _ => 0))) ++ [(q24, ia (κ.2.2.1.2.2 0) 80 (fun _ => 0)), (q32, ia (κ.2.2.1.2.2 0) 80 (fun _ => 0))])) rfl ?_
  obtain ⟨ad, had⟩ : ∃ ad : Nat → Nat, ad = fun k => if k = 0 then b else if k = 1 then q14 else if k < 23 then r (k - 2) else if k = 23 then q24 else q32 := ⟨_, rfl⟩
  refine x_w (w' := wg 25 (LE9 nb r) κ.2.2.1.2.2 ad (stR z0 2 (idf 0))) (by rw [idf_0, had]; rfl) ?_
  have a0 : b = ad 0 := by rw [had]; rfl
  have a2 : ∀ i, i < 21 → ad (2 + i) = r i := fun i hi => by rw [had]; dsimp only; rw [if_neg (by omega), if_neg (by omega), if_pos (by omega), Nat.add_sub_cancel_left]
  clear had
  subst a0
  refine x_iconst dx_E_init_47 ?_
  refine x_istore_n dx_E_init_48 rfl (by decide) ?_
  refine x_lv [(0, .ref (ad 0)), (2, .int (zI 0))] rfl ?_
  refine x_loop (fun x : Int => X κ (rmc 1 24 1021) rc_E cd_E_init 3 (wg 25 (LE9 nb r) κ.2.2.1.2.2 ad (stR z0 2 (idf x))) 24 1021 49 [(0, .ref (ad 0)), (2, .int (zI x))] []) (fun x => 0 ≤ x ∧ x ≤ 40) (fun x => (40 - x).toNat) (fun x hi49 ih49 => ?_) 0 ⟨by decide, by decide⟩
  obtain ⟨x0, x1⟩ := hi49
  refine x_iload_n dx_E_init_49 rfl rfl ?_
  refine x_bipush dx_E_init_50 (by decide) ?_
  refine x_icmp_ge (tgt := 70) dx_E_init_52 (by decide) ⟨by omega, by omega⟩ ⟨by decide, by decide⟩ (fun h52 => ?_) (fun h52 => ?_)
  ·
    have e : x = 40 := by omega
    subst e
    exact hret (ad, r) _ _ ⟨rfl, a2⟩ dx_E_init_70
  ·
    refine x_aload_n dx_E_init_55 rfl rfl ?_
    refine x_get fa_E_17 dx_E_init_56 (by decide) rfl rfl ?_
    refine x_iconst dx_E_init_59 ?_
    refine x_aald (t0 := 3) dx_E_init_60 (by decide) rfl rfl rfl (by decide) (by decide) (by decide) ?_
    refine x_st (show _ = [Value.ref (ad 2)] from by rw [show ad 2 = r 0 from a2 0 (by decide)]; rfl) ?_
    refine x_iload_n dx_E_init_61 rfl rfl ?_
    refine x_iload_n dx_E_init_62 rfl rfl ?_
    refine x_iast dx_E_init_63 (by decide) rfl (by omega) (by omega) (by decide) ?_
    refine x_iinc dx_E_init_64 rfl (by decide) ?_
    refine x_goto (tgt := 49) dx_E_init_67 (by decide) ?_
    refine x_w (congrArg (wg 25 (LE9 nb r) κ.2.2.1.2.2 ad) ((stF_stR z0 2 (idf x) x x).trans (congrArg (stR z0 2) (idf_next x0)))) ?_
    refine x_lv [(0, .ref (ad 0)), (2, .int (zI (x + 1)))] rfl ?_
    exact ih49 (x + 1) ⟨by omega, by omega⟩ (by omega)
