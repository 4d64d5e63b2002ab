set_option maxRecDepth 100000 in
set_option maxHeartbeats 4000000 in
theorem c_E_joinClasses {l : Launch} {D : va_G} {ca : Nat → ClassId} {ad : Nat → Nat} {σ : S0} {r : Nat} {p q : Int} (hs : Ok σ) (hr : r < 21) (hn0 : 0 ≤ σ.1 0) (hn : σ.1 0 ≤ 40) (h1 : 0 ≤ σ.1 1) (hp : In 40 p) (hq : In 40 q) : CI l mn_E_joinClasses kw_E_joinClasses (rmk 3) D ca [.ref (ad 2), .ref (ad (21 + r)), .int (zI p), .int (zI q)] (wg 82 LT ca ad σ) (fun z u => (p = q ∧ 1 = z ∧ σ = u) ∨ (p ≠ q ∧ σ.2.1 5 p = -1 ∧ 1 = z ∧ mvs σ r p q = u) ∨ (p ≠ q ∧ σ.2.1 5 p ≠ -1 ∧ σ.2.1 5 q = -1 ∧ 1 = z ∧ mvs σ r q p = u) ∨ (p ≠ q ∧ σ.2.1 5 p ≠ -1 ∧ σ.2.1 5 q ≠ -1 ∧ σ.2.1 5 p ≠ σ.2.1 5 q ∧ 0 = z ∧ σ = u) ∨ (p ≠ q ∧ σ.2.1 5 p ≠ -1 ∧ σ.2.1 5 q ≠ -1 ∧ σ.2.1 5 p = σ.2.1 5 q ∧ 1 = z ∧ jc5 σ r p q = u)) (wg 82 LT ca ad) := by
  refine ci_in rc_E cd_E_joinClasses 4 .boolean rfl rfl (by decide) (Nat.le_of_ble_eq_true rfl) (fun κ h1 h2 h3 hret => ?_)
  subst h1; subst h2; subst h3
  refine x_lv [(0, .ref (ad 2)), (1, .ref (ad (21 + r))), (2, .int (zI p)), (3, .int (zI q))] rfl ?_
  have hrp : Rg p := ⟨by omega, by omega⟩
  have hrq : Rg q := ⟨by omega, by omega⟩
  refine x_iload_n dx_E_joinClasses_0 rfl rfl ?_
  refine x_iload_n dx_E_joinClasses_1 rfl rfl ?_
  refine x_icmp_ne (tgt := 7) dx_E_joinClasses_2 (by decide) hrp hrq (fun h2 => ?_) (fun h2 => ?_)
  ·
    refine x_aload_n dx_E_joinClasses_7 rfl rfl ?_
    refine x_get fa_E_9 dx_E_joinClasses_8 (by decide) rfl rfl ?_
    refine x_iload_n dx_E_joinClasses_11 rfl rfl ?_
    refine x_cvi1 (c_N_isVariable hs hp.1 hp.2) cf_E_55 ⟨rfl, rfl, by decide, by decide⟩ ⟨Nat.zero_le _, Nat.zero_le _⟩ (wl_get (by decide)) rfl rfl (Nat.le_of_ble_eq_true rfl) dx_E_joinClasses_12 (fun z u hp => ?_)
    obtain ⟨rfl, rfl⟩ := hp
    refine x_ifb_eq (tgt := 27) dx_E_joinClasses_15 (by decide) (fun h15 => ?_) (fun h15 => ?_)
    ·
      refine x_aload_n dx_E_joinClasses_27 rfl rfl ?_
      refine x_get fa_E_9 dx_E_joinClasses_28 (by decide) rfl rfl ?_
      refine x_iload_n dx_E_joinClasses_31 rfl rfl ?_
      refine x_cvi1 (c_N_isVariable hs hq.1 hq.2) cf_E_55 ⟨rfl, rfl, by decide, by decide⟩ ⟨Nat.zero_le _, Nat.zero_le _⟩ (wl_get (by decide)) rfl rfl (Nat.le_of_ble_eq_true rfl) dx_E_joinClasses_32 (fun z u hp => ?_)
      obtain ⟨rfl, rfl⟩ := hp
      refine x_ifb_eq (tgt := 47) dx_E_joinClasses_35 (by decide) (fun h35 => ?_) (fun h35 => ?_)
      ·
        refine x_aload_n dx_E_joinClasses_47 rfl rfl ?_
        refine x_get fa_E_9 dx_E_joinClasses_48 (by decide) rfl rfl ?_
        refine x_get fa_E_65 dx_E_joinClasses_51 (by decide) rfl rfl ?_
        refine x_iload_n dx_E_joinClasses_54 rfl rfl ?_
        refine x_iald dx_E_joinClasses_55 (by decide) rfl (by omega) (by omega) (by decide) ?_
        refine x_aload_n dx_E_joinClasses_56 rfl rfl ?_
        refine x_get fa_E_9 dx_E_joinClasses_57 (by decide) rfl rfl ?_
        refine x_get fa_E_65 dx_E_joinClasses_60 (by decide) rfl rfl ?_
        refine x_iload_n dx_E_joinClasses_63 rfl rfl ?_
        refine x_iald dx_E_joinClasses_64 (by decide) rfl (by omega) (by omega) (by decide) ?_
        refine x_icmp_eq (tgt := 70) dx_E_joinClasses_65 (by decide) (hs.2.1 _ _) (hs.2.1 _ _) (fun h65 => ?_) (fun h65 => ?_)
        ·
          refine x_aload_n dx_E_joinClasses_70 rfl rfl ?_
          refine x_aload_n dx_E_joinClasses_71 rfl rfl ?_
          refine x_iload_n dx_E_joinClasses_72 rfl rfl ?_
          refine x_iload_n dx_E_joinClasses_73 rfl rfl ?_
          refine x_cvv3 (c_E_moveClass hs hr hn0 hn hrq) cf_E_61 ⟨rfl, rfl, by decide, by decide⟩ ⟨Nat.zero_le _, Nat.zero_le _⟩ (wl_get (by decide)) rfl rfl (Nat.le_of_ble_eq_true rfl) dx_E_joinClasses_74 (fun u hp => ?_)
          subst hp
          have hs1 : Ok (mvs σ r q p) := ok_mvs hs hrp
          refine x_aload_n dx_E_joinClasses_77 rfl rfl ?_
          refine x_aload_n dx_E_joinClasses_78 rfl rfl ?_
          refine x_get fa_E_9 dx_E_joinClasses_79 (by decide) rfl rfl ?_
          refine x_get fa_E_68 dx_E_joinClasses_82 (by decide) rfl rfl ?_
          refine x_iload_n dx_E_joinClasses_85 rfl rfl ?_
          refine x_iald dx_E_joinClasses_86 (by decide) rfl (by omega) (by omega) (by decide) ?_
          refine x_aload_n dx_E_joinClasses_87 rfl rfl ?_
          refine x_get fa_E_9 dx_E_joinClasses_88 (by decide) rfl rfl ?_
          refine x_get fa_E_68 dx_E_joinClasses_91 (by decide) rfl rfl ?_
          refine x_iload_n dx_E_joinClasses_94 rfl rfl ?_
          refine x_iald dx_E_joinClasses_95 (by decide) rfl (by omega) (by omega) (by decide) ?_
          refine x_cvv2 (c_E_addPair hs1 h1 (hs1.2.1 _ _) (hs1.2.1 _ _)) cf_E_47 ⟨rfl, rfl, by decide, by decide⟩ ⟨Nat.zero_le _, Nat.zero_le _⟩ (wl_get (by decide)) rfl rfl (Nat.le_of_ble_eq_true rfl) dx_E_joinClasses_96 (fun u hp => ?_)
          subst hp
          have hs2 := ok_apn (s := (mvs σ r q p).2.1 6 p) (t := (mvs σ r q p).2.1 6 q) hs1 h1 (hs1.2.1 _ _) (hs1.2.1 _ _)
          have h12 := apn_1 (mvs σ r q p) ((mvs σ r q p).2.1 6 p) ((mvs σ r q p).2.1 6 q) h1
          refine x_aload_n dx_E_joinClasses_99 rfl rfl ?_
          refine x_aload_n dx_E_joinClasses_100 rfl rfl ?_
          refine x_get fa_E_9 dx_E_joinClasses_101 (by decide) rfl rfl ?_
          refine x_get fa_E_71 dx_E_joinClasses_104 (by decide) rfl rfl ?_
          refine x_iload_n dx_E_joinClasses_107 rfl rfl ?_
          refine x_iald dx_E_joinClasses_108 (by decide) rfl (by omega) (by omega) (by decide) ?_
          refine x_aload_n dx_E_joinClasses_109 rfl rfl ?_
          refine x_get fa_E_9 dx_E_joinClasses_110 (by decide) rfl rfl ?_
          refine x_get fa_E_71 dx_E_joinClasses_113 (by decide) rfl rfl ?_
          refine x_iload_n dx_E_joinClasses_116 rfl rfl ?_
          refine x_iald dx_E_joinClasses_117 (by decide) rfl (by omega) (by omega) (by decide) ?_
          refine x_cvv2 (c_E_addPair hs2 h12 (hs2.2.1 _ _) (hs2.2.1 _ _)) cf_E_47 ⟨rfl, rfl, by decide, by decide⟩ ⟨Nat.zero_le _, Nat.zero_le _⟩ (wl_get (by decide)) rfl rfl (Nat.le_of_ble_eq_true rfl) dx_E_joinClasses_118 (fun u hp => ?_)
          subst hp
          refine x_iconst dx_E_joinClasses_121 ?_
          exact hret _ _ _ _ (Or.inr (Or.inr (Or.inr (Or.inr ⟨h2, h15, h35, h65, rfl, rfl⟩)))) rfl dx_E_joinClasses_122
        ·
          refine x_iconst dx_E_joinClasses_68 ?_
          exact hret _ _ _ _ (Or.inr (Or.inr (Or.inr (Or.inl ⟨h2, h15, h35, h65, rfl, rfl⟩)))) rfl dx_E_joinClasses_69
      ·
        refine x_aload_n dx_E_joinClasses_38 rfl rfl ?_
        refine x_aload_n dx_E_joinClasses_39 rfl rfl ?_
        refine x_iload_n dx_E_joinClasses_40 rfl rfl ?_
        refine x_iload_n dx_E_joinClasses_41 rfl rfl ?_
        refine x_cvv3 (c_E_moveClass hs hr hn0 hn hrq) cf_E_61 ⟨rfl, rfl, by decide, by decide⟩ ⟨Nat.zero_le _, Nat.zero_le _⟩ (wl_get (by decide)) rfl rfl (Nat.le_of_ble_eq_true rfl) dx_E_joinClasses_42 (fun u hp => ?_)
        subst hp
        refine x_iconst dx_E_joinClasses_45 ?_
        exact hret _ _ _ _ (Or.inr (Or.inr (Or.inl ⟨h2, h15, h35, rfl, rfl⟩))) rfl dx_E_joinClasses_46
    ·
      refine x_aload_n dx_E_joinClasses_18 rfl rfl ?_
      refine x_aload_n dx_E_joinClasses_19 rfl rfl ?_
      refine x_iload_n dx_E_joinClasses_20 rfl rfl ?_
      refine x_iload_n dx_E_joinClasses_21 rfl rfl ?_
      refine x_cvv3 (c_E_moveClass hs hr hn0 hn hrp) cf_E_61 ⟨rfl, rfl, by decide, by decide⟩ ⟨Nat.zero_le _, Nat.zero_le _⟩ (wl_get (by decide)) rfl rfl (Nat.le_of_ble_eq_true rfl) dx_E_joinClasses_22 (fun u hp => ?_)
      subst hp
      refine x_iconst dx_E_joinClasses_25 ?_
      exact hret _ _ _ _ (Or.inr (Or.inl ⟨h2, h15, rfl, rfl⟩)) rfl dx_E_joinClasses_26
  ·
    refine x_iconst dx_E_joinClasses_5 ?_
    exact hret _ _ _ _ (Or.inl ⟨h2, rfl, rfl⟩) rfl dx_E_joinClasses_6
set_option maxRecDepth 100000 in
set_option maxHeartbeats 4000000 in
theorem c_E_join {l : Launch} {D : va_G} {ca : Nat → ClassId} {ad : Nat → Nat} {σ : S0} {s t : Int} {e1 e2 : Int → Int} (hs : Ok σ) (hT : Tb (σ.1 0) (σ.2.1 5) (σ.2.1 6) (σ.2.1 7)) (hE0 : 0 ≤ σ.1 2) (hE1 : σ.1 2 < 20) (h : RowC (σ.1 0) (σ.2.1 5) (σ.2.1 6) (σ.2.1 7) (σ.2.1 (21 + (σ.1 2).toNat)) (clo (σ.1 0) (σ.2.1 5) (σ.2.1 6) (σ.2.1 7) e1 e2 (σ.1 2))) (hin : ∀ k, 0 ≤ k → k < σ.1 2 + 1 → In (σ.1 0) (e1 k) ∧ In (σ.1 0) (e2 k)) (h1 : e1 (σ.1 2) = s) (h2 : e2 (σ.1 2) = t) : CI l mn_E_join kw_E_join (rmk 4) D ca [.ref (ad 2), .int (zI s), .int (zI t)] (wg 82 LT ca ad σ) (fun z u => FRj σ u (σ.1 2 + 1).toNat ∧ Ok u ∧ ((1 = z ∧ RowC (σ.1 0) (σ.2.1 5) (σ.2.1 6) (σ.2.1 7) (u.2.1 (21 + (σ.1 2 + 1).toNat)) (clo (σ.1 0) (σ.2.1 5) (σ.2.1 6) (σ.2.1 7) e1 e2 (σ.1 2 + 1))) ∨ (0 = z ∧ Clash (σ.1 0) (σ.2.1 5) (clo (σ.1 0) (σ.2.1 5) (σ.2.1 6) (σ.2.1 7) e1 e2 (σ.1 2 + 1))))) (wg 82 LT ca ad) := by
  refine ci_in rc_E cd_E_join 5 .boolean rfl rfl (by decide) (Nat.le_of_ble_eq_true rfl) (fun κ h1 h2 h3 hret => ?_)
  subst h1; subst h2; subst h3
  refine x_lv [(0, .ref (ad 2)), (1, .int (zI s)), (2, .int (zI t))] rfl ?_
  have hn0 := hT.1
  have hn := hT.2.1
  have hr21 : (σ.1 2 + 1).toNat < 21 := by omega
  have hss : In (σ.1 0) s := h1 ▸ (hin (σ.1 2) hE0 (by omega)).1
  have htt : In (σ.1 0) t := h2 ▸ (hin (σ.1 2) hE0 (by omega)).2
  have hrs : Rg s := ⟨by omega, by omega⟩
  have hrt : Rg t := ⟨by omega, by omega⟩
  have hR := clo_eqv (σ.1 0) (σ.2.1 5) (σ.2.1 6) (σ.2.1 7) e1 e2 (σ.1 2 + 1)
  have hC := clo_cl (σ.1 0) (σ.2.1 5) (σ.2.1 6) (σ.2.1 7) e1 e2 (σ.1 2 + 1)
  refine x_aload_n dx_E_join_0 rfl rfl ?_
  refine x_cvr0 (c_E_triedRow hE0 hE1) cf_E_34 ⟨rfl, rfl, by decide, by decide⟩ ⟨Nat.zero_le _, Nat.zero_le _⟩ (wl_get (by decide)) rfl rfl (Nat.le_of_ble_eq_true rfl) dx_E_join_1 (fun z u hp => ?_)
  obtain ⟨rfl, rfl⟩ := hp
  refine x_astore_n dx_E_join_4 rfl (by decide) ?_
  refine x_aload_n dx_E_join_5 rfl rfl ?_
  refine x_cvr0 (c_E_keptRow hE0 (by omega)) cf_E_38 ⟨rfl, rfl, by decide, by decide⟩ ⟨Nat.zero_le _, Nat.zero_le _⟩ (wl_get (by decide)) rfl rfl (Nat.le_of_ble_eq_true rfl) dx_E_join_6 (fun z u hp => ?_)
  obtain ⟨rfl, rfl⟩ := hp
  refine x_iconst dx_E_join_9 ?_
  refine x_aload_n dx_E_join_10 rfl rfl ?_
  refine x_iconst dx_E_join_11 ?_
  refine x_bipush dx_E_join_12 (by decide) ?_
  refine x_copy cp_E_41 dx_E_join_14 (by omega) (by omega) (kT_row (by omega)) (kT_row (by omega)) (by decide) (by decide) (by decide) (by decide) (by decide) (Nat.le_of_ble_eq_true rfl) ?_
  refine x_ext (eqA_cpy (by omega)) ?_
  refine x_aload_n dx_E_join_17 rfl rfl ?_
  refine x_iconst dx_E_join_18 ?_
  refine x_put fp_E_27 io_pairCount dx_E_join_19 (by decide) rfl rfl ?_
  have hs1 : Ok (stI (stR σ (21 + (σ.1 2 + 1).toNat) (σ.2.1 (21 + (σ.1 2).toNat))) 1 0) := ok_stI (ok_stR hs (hs.2.1 _)) ⟨by decide, by decide⟩
  refine x_aload_n dx_E_join_22 rfl rfl ?_
  refine x_iload_n dx_E_join_23 rfl rfl ?_
  refine x_iload_n dx_E_join_24 rfl rfl ?_
  refine x_cvv2 (c_E_addPair hs1 (Int.le_refl _) hrs hrt) cf_E_47 ⟨rfl, rfl, by decide, by decide⟩ ⟨Nat.zero_le _, Nat.zero_le _⟩ (wl_get (by decide)) rfl rfl (Nat.le_of_ble_eq_true rfl) dx_E_join_25 (fun u hp => ?_)
  subst hp
  refine x_iconst dx_E_join_28 ?_
  refine x_istore dx_E_join_29 (by decide) ?_
  refine x_lv [(0, .ref (ad 2)), (1, .int (zI s)), (2, .int (zI t)), (3, .ref (ad (21 + (σ.1 2 + 1).toNat))), (4, .int (zI 0))] rfl ?_
  refine x_loop (fun a : Int × S0 => X κ (rmk 4) rc_E cd_E_join 5 (wg 82 LT κ.2.2.1.2.2 ad a.2) 0 0 31 [(0, .ref (ad 2)), (1, .int (zI s)), (2, .int (zI t)), (3, .ref (ad (21 + (σ.1 2 + 1).toNat))), (4, .int (zI a.1))] []) (fun a => JS σ (σ.1 2 + 1).toNat (σ.2.1 (21 + (σ.1 2).toNat)) (clo (σ.1 0) (σ.2.1 5) (σ.2.1 6) (σ.2.1 7) e1 e2 (σ.1 2 + 1)) s t a.1 a.2) (fun a => (80 - a.1).toNat) (fun a hi31 ih31 => ?_) (0, apn (stI (stR σ (21 + (σ.1 2 + 1).toNat) (σ.2.1 (21 + (σ.1 2).toNat))) 1 0) s t) (js_0 hs hT hE0 h hss htt h1 h2)
  obtain ⟨nx, τ⟩ := a
  dsimp only at hi31 ⊢
  have hJS := hi31
  obtain ⟨hF, hO, hJ⟩ := hi31
  have hpc := ji_pc hT.2.1 hss hJ
  have hd := hJ.2.2.2.1
  have hd0 := hd.1
  have hd1 := hd.2.1
  have e0 : τ.1 0 = σ.1 0 := hF.1 0 (by decide)
  have e5 : τ.2.1 5 = σ.2.1 5 := hF.2.1 5 (by decide) (by decide) (by omega)
  refine x_iload dx_E_join_31 rfl ?_
  refine x_aload_n dx_E_join_33 rfl rfl ?_
  refine x_get fa_E_27 dx_E_join_34 (by decide) rfl rfl ?_
  refine x_icmp_ge (tgt := 81) dx_E_join_37 (by decide) ⟨by omega, by omega⟩ (hO.1 _) (fun h37 => ?_) (fun h37 => ?_)
  ·
    refine x_iconst dx_E_join_81 ?_
    first
      | (exfalso; omega)
      | (have e : nx = τ.1 1 := by omega
         rw [e] at hJ
         exact hret _ _ _ _ ⟨hF, hO, Or.inl ⟨rfl, ji_end hT h hin h1 h2 hJ⟩⟩ rfl dx_E_join_82)
  ·
    refine x_iload dx_E_join_40 rfl ?_
    refine x_bipush dx_E_join_42 (by decide) ?_
    refine x_icmp_ge (tgt := 81) dx_E_join_44 (by decide) ⟨by omega, by omega⟩ ⟨by decide, by decide⟩ (fun h44 => ?_) (fun h44 => ?_)
    ·
      refine x_iconst dx_E_join_81 ?_
      first
        | (exfalso; omega)
        | (have e : nx = τ.1 1 := by omega
           rw [e] at hJ
           exact hret _ _ _ _ ⟨hF, hO, Or.inl ⟨rfl, ji_end hT h hin h1 h2 hJ⟩⟩ rfl dx_E_join_82)
    ·
      obtain ⟨k1, k2, -⟩ := hd.2.2.2 nx hd.1 h37
      have p1 := (hJ.1 _ k1).1
      have q1 := (hJ.1 _ k2).1
      refine x_aload_n dx_E_join_47 rfl rfl ?_
      refine x_aload_n dx_E_join_48 rfl rfl ?_
      refine x_aload_n dx_E_join_49 rfl rfl ?_
      refine x_aload_n dx_E_join_50 rfl rfl ?_
      refine x_get fa_E_20 dx_E_join_51 (by decide) rfl rfl ?_
      refine x_iload dx_E_join_54 rfl ?_
      refine x_iald dx_E_join_56 (by decide) rfl (by omega) (by omega) (by decide) ?_
      refine x_iald dx_E_join_57 (by omega) (kT_row hr21) (by omega) (by omega) (by decide) ?_
      refine x_aload_n dx_E_join_58 rfl rfl ?_
      refine x_aload_n dx_E_join_59 rfl rfl ?_
      refine x_get fa_E_24 dx_E_join_60 (by decide) rfl rfl ?_
      refine x_iload dx_E_join_63 rfl ?_
      refine x_iald dx_E_join_65 (by decide) rfl (by omega) (by omega) (by decide) ?_
      refine x_iald dx_E_join_66 (by omega) (kT_row hr21) (by omega) (by omega) (by decide) ?_
      refine x_cvi3 (c_E_joinClasses hO hr21 (by omega) (by omega) (by omega) ⟨p1.1, by omega⟩ ⟨q1.1, by omega⟩) cf_E_51 ⟨rfl, rfl, by decide, by decide⟩ ⟨Nat.zero_le _, Nat.zero_le _⟩ (wl_get (by decide)) rfl rfl (Nat.le_of_ble_eq_true rfl) dx_E_join_67 (fun z u hp => ?_)
      rw [e5] at hp
      rcases hp with ⟨e, rfl, rfl⟩ | ⟨e, v, rfl, rfl⟩ | ⟨e, v, v2, rfl, rfl⟩ | ⟨e, v, v2, v3, rfl, rfl⟩ | ⟨e, v, v2, v3, rfl, rfl⟩
      · refine x_if_ne (tgt := 75) dx_E_join_70 (by decide) ⟨by decide, by decide⟩ (fun _ => ?_) (fun h => absurd h (by decide))
        refine x_iinc dx_E_join_75 rfl (by decide) ?_
        refine x_goto (tgt := 31) dx_E_join_78 (by decide) ?_
        refine x_lv [(0, .ref (ad 2)), (1, .int (zI s)), (2, .int (zI t)), (3, .ref (ad (21 + (σ.1 2 + 1).toNat))), (4, .int (zI (nx + 1)))] rfl ?_
        exact ih31 (nx + 1, _) (js_same hJS h37 e) (by dsimp only; omega)
      · refine x_if_ne (tgt := 75) dx_E_join_70 (by decide) ⟨by decide, by decide⟩ (fun _ => ?_) (fun h => absurd h (by decide))
        refine x_iinc dx_E_join_75 rfl (by decide) ?_
        refine x_goto (tgt := 31) dx_E_join_78 (by decide) ?_
        refine x_lv [(0, .ref (ad 2)), (1, .int (zI s)), (2, .int (zI t)), (3, .ref (ad (21 + (σ.1 2 + 1).toNat))), (4, .int (zI (nx + 1)))] rfl ?_
        exact ih31 (nx + 1, _) (js_var hR hJS h37 (Or.inl ⟨rfl, rfl⟩) e v ⟨by omega, by omega⟩) (by dsimp only; omega)
      · refine x_if_ne (tgt := 75) dx_E_join_70 (by decide) ⟨by decide, by decide⟩ (fun _ => ?_) (fun h => absurd h (by decide))
        refine x_iinc dx_E_join_75 rfl (by decide) ?_
        refine x_goto (tgt := 31) dx_E_join_78 (by decide) ?_
        refine x_lv [(0, .ref (ad 2)), (1, .int (zI s)), (2, .int (zI t)), (3, .ref (ad (21 + (σ.1 2 + 1).toNat))), (4, .int (zI (nx + 1)))] rfl ?_
        exact ih31 (nx + 1, _) (js_var hR hJS h37 (Or.inr ⟨rfl, rfl⟩) (Ne.symm e) v2 ⟨by omega, by omega⟩) (by dsimp only; omega)
      · refine x_if_ne (tgt := 75) dx_E_join_70 (by decide) ⟨by decide, by decide⟩ (fun h => absurd rfl h) (fun _ => ?_)
        refine x_iconst dx_E_join_73 ?_
        exact hret _ _ _ _ ⟨hF, hO, Or.inr ⟨rfl, ji_clash hR hJ h37 v v2 v3⟩⟩ rfl dx_E_join_74
      · refine x_if_ne (tgt := 75) dx_E_join_70 (by decide) ⟨by decide, by decide⟩ (fun _ => ?_) (fun h => absurd h (by decide))
        refine x_iinc dx_E_join_75 rfl (by decide) ?_
        refine x_goto (tgt := 31) dx_E_join_78 (by decide) ?_
        refine x_lv [(0, .ref (ad 2)), (1, .int (zI s)), (2, .int (zI t)), (3, .ref (ad (21 + (σ.1 2 + 1).toNat))), (4, .int (zI (nx + 1)))] rfl ?_
        exact ih31 (nx + 1, _) (js_both hT hR hC hss hJS h37 rfl rfl e v v3 ⟨by omega, by omega⟩) (by dsimp only; omega)
