set_option maxRecDepth 100000 in
set_option maxHeartbeats 4000000 in
theorem c_P_partsInCommon {l : Launch} {D : va_G} {ca : Nat → ClassId} {ad : Nat → Nat} {σ : S0} {σ0 : S0} {a : Int} (hT : VT σ0) (har : AR σ0) (h40 : σ0.1 3 ≤ 40) (hF : FRp σ0 σ) (hO : Ok σ) (hM : MO σ) (hD : SD σ0 σ) (ha : In (σ0.1 3) a) : CL l mn_P_partsInCommon kw_P_partsInCommon (rmk 4) D ca [.ref (ad 4), .int (zI a)] (wg 82 LT ca ad σ) (fun z u => FRp σ0 u ∧ Ok u ∧ MO u ∧ SD σ0 u ∧ z + DSS σ0 u a.toNat = DSS σ0 σ (a + 1).toNat) (wg 82 LT ca ad) := by
  refine cl_in rc_P cd_P_partsInCommon 5 rfl rfl (by decide) (Nat.le_of_ble_eq_true rfl) (fun κ h1 h2 h3 hret => ?_)
  subst h1; subst h2; subst h3
  refine x_lv [(0, .ref (ad 4)), (1, .int (zI a))] rfl ?_
  have ia : In 40 a := ⟨ha.1, by omega⟩
  have fa : ∀ v, In (σ0.1 3) v → (σ0.2.1 13 v = -1 ∨ In 40 (σ0.2.1 13 v)) ∧ (σ0.2.1 14 v = -1 ∨ In 40 (σ0.2.1 14 v)) := fun v hv => by
    have q := hT.2 v hv
    exact ⟨q.1.imp id (fun z => ⟨z.1, by omega⟩), q.2.1.imp id (fun z => ⟨z.1, by omega⟩)⟩
  refine x_lconst (z := 0) dx_P_partsInCommon_0 (by decide) ?_
  refine x_lstore_n dx_P_partsInCommon_1 rfl (by decide) ?_
  refine x_iconst dx_P_partsInCommon_2 ?_
  refine x_istore dx_P_partsInCommon_3 (by decide) ?_
  refine x_lv [(0, .ref (ad 4)), (1, .int (zI a)), (2, .long (zL 0)), (4, .int (zI 0))] rfl ?_
  refine x_loop (fun q : Int × Int × S0 => X κ (rmk 4) rc_P cd_P_partsInCommon 5 (wg 82 LT κ.2.2.1.2.2 ad q.2.2) 0 0 5 [(0, .ref (ad 4)), (1, .int (zI a)), (2, .long (zL q.2.1)), (4, .int (zI q.1))] []) (fun q => 0 ≤ q.1 ∧ q.1 ≤ σ0.1 3 ∧ PC σ0 (RWS σ0 σ a + DSS σ0 σ a.toNat) a q.1 q.2.1 q.2.2) (fun q => (σ0.1 3 - q.1).toNat) (fun q hi5 ih5 => ?_) (0, 0, σ) ⟨Int.le_refl _, hT.1, hF, hO, hM, hD, by dsimp only; rw [rrs_0]; omega⟩
  obtain ⟨b, c, τ⟩ := q
  dsimp only at hi5 ⊢
  obtain ⟨b0, b1, hJ⟩ := hi5
  have fr := hJ.1
  have jO := hJ.2.1
  have jM := hJ.2.2.1
  have e1 : τ.1 = σ0.1 := fr.1
  have e2 : τ.2.1 = σ0.2.1 := fr.2.1
  refine x_iload dx_P_partsInCommon_5 rfl ?_
  refine x_aload_n dx_P_partsInCommon_7 rfl rfl ?_
  refine x_get fa_P_9 dx_P_partsInCommon_8 (by decide) rfl rfl ?_
  refine x_get fa_P_50 dx_P_partsInCommon_11 (by decide) rfl rfl ?_
  refine x_icmp_ge (tgt := 74) dx_P_partsInCommon_14 (by decide) ⟨by omega, by omega⟩ (jO.1 _) (fun h14 => ?_) (fun h14 => ?_)
  ·
    rw [e1] at h14
    refine x_lload_n dx_P_partsInCommon_74 rfl rfl ?_
    have e : b = σ0.1 3 := Int.le_antisymm b1 h14
    subst e
    obtain ⟨j1, j2, j3, j4, j5⟩ := hJ
    rw [rrs_end j4 ia] at j5
    exact hret _ _ _ _ ⟨j1, j2, j3, j4, by rw [dss_row ha.1]; omega⟩ dx_P_partsInCommon_75
  ·
    rw [e1] at h14
    have hb : In (σ0.1 3) b := ⟨b0, h14⟩
    have ib : In 40 b := ⟨b0, by omega⟩
    refine x_aload_n dx_P_partsInCommon_17 rfl rfl ?_
    refine x_iload_n dx_P_partsInCommon_18 rfl rfl ?_
    refine x_iload dx_P_partsInCommon_19 rfl ?_
    refine x_cvi2 (c_P_isMet jM ia ib) cf_P_54 ⟨rfl, rfl, by decide, by decide⟩ ⟨Nat.zero_le _, Nat.zero_le _⟩ (wl_get (by decide)) rfl rfl (Nat.le_of_ble_eq_true rfl) dx_P_partsInCommon_21 (fun z u hp => ?_)
    obtain ⟨rfl, rfl⟩ := hp
    refine x_ifb_eq (tgt := 68) dx_P_partsInCommon_24 (by decide) (fun h24 => ?_) (fun h24 => ?_)
    ·
      refine x_iinc dx_P_partsInCommon_68 rfl (by decide) ?_
      refine x_goto (tgt := 5) dx_P_partsInCommon_71 (by decide) ?_
      first
        | (refine x_lv [(0, .ref (ad 4)), (1, .int (zI a)), (2, .long (zL c)), (4, .int (zI (b + 1)))] rfl ?_; exact ih5 ((b + 1), c, _) ⟨by dsimp only; omega, by dsimp only; omega, pc_no hJ ib h24⟩ (by dsimp only; omega))
        | (refine x_lv [(0, .ref (ad 4)), (1, .int (zI a)), (2, .long (zL (c + τ.2.2 (42 + a.toNat) b))), (4, .int (zI (b + 1)))] rfl ?_; exact ih5 ((b + 1), (c + τ.2.2 (42 + a.toNat) b), _) ⟨by dsimp only; omega, by dsimp only; omega, pc_ne hJ ia ib h24 h58⟩ (by dsimp only; omega))
        | (refine x_lv [(0, .ref (ad 4)), (1, .int (zI a)), (2, .long (zL (c + τ.2.2 (42 + a.toNat) b))), (4, .int (zI (b + 1)))] rfl ?_; exact ih5 ((b + 1), (c + τ.2.2 (42 + a.toNat) b), _) ⟨by dsimp only; omega, by dsimp only; omega, pc_eq hT har h40 hJ ia ib h24 h58⟩ (by dsimp only; omega))
    ·
      refine x_lload_n dx_P_partsInCommon_27 rfl rfl ?_
      refine x_aload_n dx_P_partsInCommon_28 rfl rfl ?_
      refine x_get fa_P_21 dx_P_partsInCommon_29 (by decide) rfl rfl ?_
      refine x_iload_n dx_P_partsInCommon_32 rfl rfl ?_
      refine x_aald (t0 := 4) dx_P_partsInCommon_33 (by decide) rfl rfl rfl (by omega) (by omega) (by decide) ?_
      refine x_iload dx_P_partsInCommon_34 rfl ?_
      refine x_lald dx_P_partsInCommon_36 (by omega) kT_tim (by omega) (by omega) (by decide) ?_
      refine x_ladd dx_P_partsInCommon_37 ?_
      refine x_lstore_n dx_P_partsInCommon_38 rfl (by decide) ?_
      refine x_aload_n dx_P_partsInCommon_39 rfl rfl ?_
      refine x_get fa_P_9 dx_P_partsInCommon_40 (by decide) rfl rfl ?_
      refine x_get fa_P_38 dx_P_partsInCommon_43 (by decide) rfl rfl ?_
      refine x_iload_n dx_P_partsInCommon_46 rfl rfl ?_
      refine x_iald dx_P_partsInCommon_47 (by decide) rfl (by omega) (by omega) (by decide) ?_
      refine x_aload_n dx_P_partsInCommon_48 rfl rfl ?_
      refine x_get fa_P_9 dx_P_partsInCommon_49 (by decide) rfl rfl ?_
      refine x_get fa_P_38 dx_P_partsInCommon_52 (by decide) rfl rfl ?_
      refine x_iload dx_P_partsInCommon_55 rfl ?_
      refine x_iald dx_P_partsInCommon_57 (by decide) rfl (by omega) (by omega) (by decide) ?_
      refine x_icmp_ne (tgt := 68) dx_P_partsInCommon_58 (by decide) (jO.2.1 _ _) (jO.2.1 _ _) (fun h58 => ?_) (fun h58 => ?_)
      ·
        rw [e2] at h58
        refine x_iinc dx_P_partsInCommon_68 rfl (by decide) ?_
        refine x_goto (tgt := 5) dx_P_partsInCommon_71 (by decide) ?_
        first
          | (refine x_lv [(0, .ref (ad 4)), (1, .int (zI a)), (2, .long (zL c)), (4, .int (zI (b + 1)))] rfl ?_; exact ih5 ((b + 1), c, _) ⟨by dsimp only; omega, by dsimp only; omega, pc_no hJ ib h24⟩ (by dsimp only; omega))
          | (refine x_lv [(0, .ref (ad 4)), (1, .int (zI a)), (2, .long (zL (c + τ.2.2 (42 + a.toNat) b))), (4, .int (zI (b + 1)))] rfl ?_; exact ih5 ((b + 1), (c + τ.2.2 (42 + a.toNat) b), _) ⟨by dsimp only; omega, by dsimp only; omega, pc_ne hJ ia ib h24 h58⟩ (by dsimp only; omega))
          | (refine x_lv [(0, .ref (ad 4)), (1, .int (zI a)), (2, .long (zL (c + τ.2.2 (42 + a.toNat) b))), (4, .int (zI (b + 1)))] rfl ?_; exact ih5 ((b + 1), (c + τ.2.2 (42 + a.toNat) b), _) ⟨by dsimp only; omega, by dsimp only; omega, pc_eq hT har h40 hJ ia ib h24 h58⟩ (by dsimp only; omega))
      ·
        rw [e2] at h58
        refine x_aload_n dx_P_partsInCommon_61 rfl rfl ?_
        refine x_iload_n dx_P_partsInCommon_62 rfl rfl ?_
        refine x_iload dx_P_partsInCommon_63 rfl ?_
        refine x_cvv2 (c_P_meetArguments jM ia ib (by rw [e2]; exact (fa a ha).1) (by rw [e2]; exact (fa b hb).1) (by rw [e2]; exact (fa a ha).2) (by rw [e2]; exact (fa b hb).2)) cf_P_58 ⟨rfl, rfl, by decide, by decide⟩ ⟨Nat.zero_le _, Nat.zero_le _⟩ (wl_get (by decide)) rfl rfl (Nat.le_of_ble_eq_true rfl) dx_P_partsInCommon_65 (fun u hp => ?_)
        subst hp
        refine x_iinc dx_P_partsInCommon_68 rfl (by decide) ?_
        refine x_goto (tgt := 5) dx_P_partsInCommon_71 (by decide) ?_
        first
          | (refine x_lv [(0, .ref (ad 4)), (1, .int (zI a)), (2, .long (zL c)), (4, .int (zI (b + 1)))] rfl ?_; exact ih5 ((b + 1), c, _) ⟨by dsimp only; omega, by dsimp only; omega, pc_no hJ ib h24⟩ (by dsimp only; omega))
          | (refine x_lv [(0, .ref (ad 4)), (1, .int (zI a)), (2, .long (zL (c + τ.2.2 (42 + a.toNat) b))), (4, .int (zI (b + 1)))] rfl ?_; exact ih5 ((b + 1), (c + τ.2.2 (42 + a.toNat) b), _) ⟨by dsimp only; omega, by dsimp only; omega, pc_ne hJ ia ib h24 h58⟩ (by dsimp only; omega))
          | (refine x_lv [(0, .ref (ad 4)), (1, .int (zI a)), (2, .long (zL (c + τ.2.2 (42 + a.toNat) b))), (4, .int (zI (b + 1)))] rfl ?_; exact ih5 ((b + 1), (c + τ.2.2 (42 + a.toNat) b), _) ⟨by dsimp only; omega, by dsimp only; omega, pc_eq hT har h40 hJ ia ib h24 h58⟩ (by dsimp only; omega))
set_option maxRecDepth 100000 in
set_option maxHeartbeats 4000000 in
theorem c_P_sizeInCommon {l : Launch} {D : va_G} {ca : Nat → ClassId} {ad : Nat → Nat} {σ : S0} {s t : Int} (hs0 : Ok σ) (hT : VT σ) (har : AR σ) (h40 : σ.1 3 ≤ 40) (hs : In (σ.1 3) s) (ht : In (σ.1 3) t) : CL l mn_P_sizeInCommon kw_P_sizeInCommon (rmk 5) D ca [.ref (ad 4), .int (zI s), .int (zI t)] (wg 82 LT ca ad σ) (fun z u => FRp σ u ∧ Ok u ∧ cm σ s t = z) (wg 82 LT ca ad) := by
  refine cl_in rc_P cd_P_sizeInCommon 6 rfl rfl (by decide) (Nat.le_of_ble_eq_true rfl) (fun κ h1 h2 h3 hret => ?_)
  subst h1; subst h2; subst h3
  refine x_lv [(0, .ref (ad 4)), (1, .int (zI s)), (2, .int (zI t))] rfl ?_
  have is : In 40 s := ⟨hs.1, by omega⟩
  have it : In 40 t := ⟨ht.1, by omega⟩
  have hd := dss_start hs0 h40 hs ht
  have mo0 : MO (stM σ 19 (fun _ => 0)) := fun x _ => by
    rw [stM_at]
    exact ⟨Int.le_refl _, p2_pos 40⟩
  refine x_aload_n dx_P_sizeInCommon_0 rfl rfl ?_
  refine x_get fa_P_15 dx_P_sizeInCommon_1 (by decide) rfl rfl ?_
  refine x_lconst (z := 0) dx_P_sizeInCommon_4 (by decide) ?_
  refine x_csv2 (c_jY_fill_1 (j := 19) (by decide) rfl (by decide)) cf_P_24 ⟨rfl, rfl, by decide, by decide⟩ ⟨Nat.zero_le _, Nat.zero_le _⟩ (Nat.le_of_ble_eq_true rfl) dx_P_sizeInCommon_5 (fun u hp => ?_)
  subst hp
  refine x_aload_n dx_P_sizeInCommon_8 rfl rfl ?_
  refine x_iload_n dx_P_sizeInCommon_9 rfl rfl ?_
  refine x_iload_n dx_P_sizeInCommon_10 rfl rfl ?_
  refine x_lconst (z := 1) dx_P_sizeInCommon_11 (by decide) ?_
  refine x_cvv3 (c_P_meet (σ := stM σ 19 (fun _ => 0)) mo0 (Or.inr is) (Or.inr it)) cf_P_30 ⟨rfl, rfl, by decide, by decide⟩ ⟨Nat.zero_le _, Nat.zero_le _⟩ (wl_get (by decide)) rfl rfl (Nat.le_of_ble_eq_true rfl) dx_P_sizeInCommon_12 (fun u hp => ?_)
  subst hp
  refine x_lconst (z := 0) dx_P_sizeInCommon_15 (by decide) ?_
  refine x_lstore_n dx_P_sizeInCommon_16 rfl (by decide) ?_
  refine x_iload_n dx_P_sizeInCommon_17 rfl rfl ?_
  refine x_istore dx_P_sizeInCommon_18 (by decide) ?_
  refine x_lv [(0, .ref (ad 4)), (3, .long (zL 0)), (5, .int (zI s))] rfl ?_
  refine x_loop (fun q : Int × Int × S0 => X κ (rmk 5) rc_P cd_P_sizeInCommon 6 (wg 82 LT κ.2.2.1.2.2 ad q.2.2) 0 0 20 [(0, .ref (ad 4)), (3, .long (zL q.2.1)), (5, .int (zI q.1))] []) (fun q => -1 ≤ q.1 ∧ q.1 ≤ s ∧ FRp σ q.2.2 ∧ Ok q.2.2 ∧ MO q.2.2 ∧ SD σ q.2.2 ∧ q.2.1 + DSS σ q.2.2 (q.1 + 1).toNat = cm σ s t) (fun q => (q.1 + 1).toNat) (fun q hi20 ih20 => ?_) (s, 0, (mee (stM σ 19 (fun _ => 0)) s t 1)) ⟨by dsimp only; omega, Int.le_refl _, hd.1, hd.2.1, hd.2.2.1, hd.2.2.2.1, by dsimp only; rw [hd.2.2.2.2]; omega⟩
  obtain ⟨a, c, τ⟩ := q
  dsimp only at hi20 ⊢
  obtain ⟨a0, a1, j1, j2, j3, j4, j5⟩ := hi20
  refine x_iload dx_P_sizeInCommon_20 rfl ?_
  refine x_if_lt (tgt := 40) dx_P_sizeInCommon_22 (by decide) ⟨by omega, by omega⟩ (fun h22 => ?_) (fun h22 => ?_)
  ·
    refine x_lload_n dx_P_sizeInCommon_40 rfl rfl ?_
    have e : a = -1 := by omega
    subst e
    have z0 : DSS σ τ (-1 + 1 : Int).toNat = 0 := rfl
    exact hret _ _ _ _ ⟨j1, j2, by omega⟩ dx_P_sizeInCommon_41
  ·
    refine x_lload_n dx_P_sizeInCommon_25 rfl rfl ?_
    refine x_aload_n dx_P_sizeInCommon_26 rfl rfl ?_
    refine x_iload dx_P_sizeInCommon_27 rfl ?_
    refine x_cvl1 (c_P_partsInCommon hT har h40 j1 j2 j3 j4 ⟨h22, by omega⟩) cf_P_62 ⟨rfl, rfl, by decide, by decide⟩ ⟨Nat.zero_le _, Nat.zero_le _⟩ (wl_get (by decide)) rfl rfl (Nat.le_of_ble_eq_true rfl) dx_P_sizeInCommon_29 (fun z u hp => ?_)
    obtain ⟨u1, u2, u3, u4, u5⟩ := hp
    refine x_ladd dx_P_sizeInCommon_32 ?_
    refine x_lstore_n dx_P_sizeInCommon_33 rfl (by decide) ?_
    refine x_iinc dx_P_sizeInCommon_34 rfl (by decide) ?_
    refine x_goto (tgt := 20) dx_P_sizeInCommon_37 (by decide) ?_
    refine x_lv [(0, .ref (ad 4)), (3, .long (zL (c + z))), (5, .int (zI (a + -1)))] rfl ?_
    exact ih20 ((a + -1), (c + z), _) ⟨by dsimp only; omega, by dsimp only; omega, u1, u2, u3, u4, by dsimp only; rw [show a + -1 + 1 = a by omega]; omega⟩ (by dsimp only; omega)
set_option maxRecDepth 100000 in
set_option maxHeartbeats 4000000 in
theorem c_T_common {l : Launch} {D : va_G} {ca : Nat → ClassId} {ad : Nat → Nat} {σ : S0} {s t : Int} {e1 e2 : Int → Int} (hI : INV σ e1 e2) (hs : Rg s) (ht : Rg t) : CXL l mn_T_common kw_T_common (rmx 7 2 12) 2 12 D ca [.ref (ad 0), .int (zI s), .int (zI t)] (wg 82 LT ca ad σ) (fun z u => In (σ.1 0) s ∧ In (σ.1 0) t ∧ FRp σ u ∧ Ok u ∧ cm σ (σ.2.1 11 s) (σ.2.1 11 t) = z) (fun E u => E = rc_jA ∧ ¬ (In (σ.1 0) s ∧ In (σ.1 0) t) ∧ σ = u) (wg 82 LT ca ad) := by
  refine cxl_in rc_T cd_T_common 3 rfl rfl (by decide) (Nat.le_of_ble_eq_true rfl) ⟨by decide, by decide, by decide, by decide⟩ (fun κ h1 h2 h3 Z hret hthr hout => ?_)
  subst h1; subst h2; subst h3
  refine x_lv [(0, .ref (ad 0)), (1, .int (zI s)), (2, .int (zI t))] rfl ?_
  have hn := hI.1.2.1.2.1
  refine x_aload_n dx_T_common_0 rfl rfl ?_
  refine x_iload_n dx_T_common_1 rfl rfl ?_
  refine x_tv1 (c_T_needNode hI.1.1 hs) cf_T_107 Z ⟨rfl, rfl, by decide, by decide⟩ ⟨by decide, by decide⟩ (wl_get (by decide)) rfl rfl (Nat.le_of_ble_eq_true rfl) dx_T_common_2 (fun E9 u hp => hout _ _ _ _ _ _ (⟨hp.1, fun q => hp.2.1 q.1, hp.2.2⟩) (by decide) (by decide)) (fun u hp => ?_)
  obtain ⟨gs, rfl⟩ := hp
  refine x_aload_n dx_T_common_5 rfl rfl ?_
  refine x_iload_n dx_T_common_6 rfl rfl ?_
  refine x_tv1 (c_T_needNode hI.1.1 ht) cf_T_107 Z ⟨rfl, rfl, by decide, by decide⟩ ⟨by decide, by decide⟩ (wl_get (by decide)) rfl rfl (Nat.le_of_ble_eq_true rfl) dx_T_common_7 (fun E9 u hp => hout _ _ _ _ _ _ (⟨hp.1, fun q => hp.2.1 q.2, hp.2.2⟩) (by decide) (by decide)) (fun u hp => ?_)
  obtain ⟨gt, rfl⟩ := hp
  have gv := (hI.2.2.2.2.1 s gs).1
  have gw := (hI.2.2.2.2.1 t gt).1
  have g40 := hI.2.2.2.1
  have gar := ar_of hI.1.2.1 (inv_row hI.1) hI.2
  refine x_aload_n dx_T_common_10 rfl rfl ?_
  refine x_get fa_T_37 dx_T_common_11 (by decide) rfl rfl ?_
  refine x_aload_n dx_T_common_14 rfl rfl ?_
  refine x_get fa_T_28 dx_T_common_15 (by decide) rfl rfl ?_
  refine x_get fa_T_110 dx_T_common_18 (by decide) rfl rfl ?_
  refine x_iload_n dx_T_common_21 rfl rfl ?_
  refine x_iald dx_T_common_22 (by decide) rfl (by omega) (by omega) (by decide) ?_
  refine x_aload_n dx_T_common_23 rfl rfl ?_
  refine x_get fa_T_28 dx_T_common_24 (by decide) rfl rfl ?_
  refine x_get fa_T_110 dx_T_common_27 (by decide) rfl rfl ?_
  refine x_iload_n dx_T_common_30 rfl rfl ?_
  refine x_iald dx_T_common_31 (by decide) rfl (by omega) (by omega) (by decide) ?_
  refine x_cvl2 (c_P_sizeInCommon hI.1.1 hI.2.1 gar g40 gv gw) cf_T_146 ⟨rfl, rfl, by decide, by decide⟩ ⟨by decide, by decide⟩ (wl_get (by decide)) rfl rfl (Nat.le_of_ble_eq_true rfl) dx_T_common_32 (fun z u hp => ?_)
  exact hret _ _ _ _ _ _ (by decide) (by decide) ⟨gs, gt, hp⟩ dx_T_common_35
