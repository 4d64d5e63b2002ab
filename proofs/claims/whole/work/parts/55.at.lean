set_option maxRecDepth 100000 in
set_option maxHeartbeats 4000000 in
theorem c_V_writtenAt {l : Launch} {D : va_G} {ca : Nat → ClassId} {ad : Nat → Nat} {σ : S0} {v i : Int} (hs : Ok σ) (hT : VT σ) (h40 : σ.1 3 ≤ 40) (hv : In (σ.1 3) v) (h0 : 0 ≤ i) (h1 : i < σ.2.2 17 v) : CI l mn_V_writtenAt kw_V_writtenAt (rmk 2) D ca [.ref (ad 3), .int (zI v), .long (zL i)] (wg 82 LT ca ad σ) (fun z u => wr σ v i = z ∧ σ = u) (wg 82 LT ca ad) := by
  refine ci_in rc_V cd_V_writtenAt 10 .int rfl rfl (by decide) (Nat.le_of_ble_eq_true rfl) (fun κ h1 h2 h3 hret => ?_)
  subst h1; subst h2; subst h3
  refine x_lv [(0, .ref (ad 3)), (1, .int (zI v)), (2, .long (zL i))] rfl ?_
  refine x_iload_n dx_V_writtenAt_0 rfl rfl ?_
  refine x_istore dx_V_writtenAt_1 (by decide) ?_
  refine x_lload_n dx_V_writtenAt_3 rfl rfl ?_
  refine x_lstore dx_V_writtenAt_4 (by decide) ?_
  refine x_iconst dx_V_writtenAt_6 ?_
  refine x_istore dx_V_writtenAt_7 (by decide) ?_
  refine x_lv [(0, .ref (ad 3)), (4, .int (zI v)), (5, .long (zL i)), (7, .int (zI 0))] rfl ?_
  refine x_loop (fun a : Int × Int × Int => X κ (rmk 2) rc_V cd_V_writtenAt 10 (wg 82 LT κ.2.2.1.2.2 ad σ) 0 0 9 [(0, .ref (ad 3)), (4, .int (zI a.2.1)), (5, .long (zL a.2.2)), (7, .int (zI a.1))] []) (fun a => 0 ≤ a.1 ∧ In (σ.1 3) a.2.1 ∧ 0 ≤ a.2.2 ∧ a.2.2 < σ.2.2 17 a.2.1 ∧ wr σ a.2.1 a.2.2 = wr σ v i ∧ a.1 + a.2.1 ≤ v) (fun a => (40 - a.1).toNat) (fun a hi9 ih9 => ?_) (0, v, i) ⟨Int.le_refl _, hv, h0, h1, rfl, by dsimp only; omega⟩
  obtain ⟨lev, part, rest⟩ := a
  dsimp only at hi9 ⊢
  obtain ⟨i0, i1, i2, i3, i4, i5⟩ := hi9
  have b1 := vt_lt40 hT h40 i1
  refine x_iload dx_V_writtenAt_9 rfl ?_
  refine x_bipush dx_V_writtenAt_11 (by decide) ?_
  refine x_icmp_ge (tgt := 84) dx_V_writtenAt_13 (by decide) ⟨by omega, by omega⟩ ⟨by decide, by decide⟩ (fun h13 => ?_) (fun h13 => ?_)
  ·
    refine x_aload_n dx_V_writtenAt_84 rfl rfl ?_
    refine x_get fa_V_19 dx_V_writtenAt_85 (by decide) rfl rfl ?_
    refine x_iload dx_V_writtenAt_88 rfl ?_
    refine x_iald dx_V_writtenAt_90 (by decide) rfl (by omega) (by omega) (by decide) ?_
    refine x_iconst dx_V_writtenAt_91 ?_
    refine x_icmp_ne (tgt := 107) dx_V_writtenAt_92 (by decide) (hs.2.1 _ _) ⟨by decide, by decide⟩ (fun h92 => ?_) (fun h92 => ?_)
    ·
      refine x_aload_n dx_V_writtenAt_107 rfl rfl ?_
      refine x_get fa_V_19 dx_V_writtenAt_108 (by decide) rfl rfl ?_
      refine x_iload dx_V_writtenAt_111 rfl ?_
      refine x_iald dx_V_writtenAt_113 (by decide) rfl (by omega) (by omega) (by decide) ?_
      first
        | (exfalso; omega)
        | (have e : rest = 0 := by omega
           subst e
           rw [wr_0] at i4
           exact hret _ _ _ _ ⟨i4.symm.trans (if_pos h92), rfl⟩ rfl dx_V_writtenAt_114)
        | (have e : rest = 0 := by omega
           subst e
           rw [wr_0] at i4
           exact hret _ _ _ _ ⟨i4.symm.trans (if_neg h92), rfl⟩ rfl dx_V_writtenAt_114)
    ·
      refine x_iconst dx_V_writtenAt_95 ?_
      refine x_aload_n dx_V_writtenAt_96 rfl rfl ?_
      refine x_get fa_V_31 dx_V_writtenAt_97 (by decide) rfl rfl ?_
      refine x_iload dx_V_writtenAt_100 rfl ?_
      refine x_iald dx_V_writtenAt_102 (by decide) rfl (by omega) (by omega) (by decide) ?_
      refine x_isub dx_V_writtenAt_103 ?_
      refine x_goto (tgt := 114) dx_V_writtenAt_104 (by decide) ?_
      first
        | (exfalso; omega)
        | (have e : rest = 0 := by omega
           subst e
           rw [wr_0] at i4
           exact hret _ _ _ _ ⟨i4.symm.trans (if_pos h92), rfl⟩ rfl dx_V_writtenAt_114)
        | (have e : rest = 0 := by omega
           subst e
           rw [wr_0] at i4
           exact hret _ _ _ _ ⟨i4.symm.trans (if_neg h92), rfl⟩ rfl dx_V_writtenAt_114)
  ·
    refine x_lload dx_V_writtenAt_16 rfl ?_
    refine x_lconst (z := 0) dx_V_writtenAt_18 (by decide) ?_
    refine x_lcmp dx_V_writtenAt_19 ⟨by omega, by omega⟩ ⟨by decide, by decide⟩ ?_
    refine x_if_le (tgt := 84) dx_V_writtenAt_20 (by decide) (zc_rg _ _) (fun h20 => ?_) (fun h20 => ?_)
    ·
      have h20 := zc_le0 h20
      refine x_aload_n dx_V_writtenAt_84 rfl rfl ?_
      refine x_get fa_V_19 dx_V_writtenAt_85 (by decide) rfl rfl ?_
      refine x_iload dx_V_writtenAt_88 rfl ?_
      refine x_iald dx_V_writtenAt_90 (by decide) rfl (by omega) (by omega) (by decide) ?_
      refine x_iconst dx_V_writtenAt_91 ?_
      refine x_icmp_ne (tgt := 107) dx_V_writtenAt_92 (by decide) (hs.2.1 _ _) ⟨by decide, by decide⟩ (fun h92 => ?_) (fun h92 => ?_)
      ·
        refine x_aload_n dx_V_writtenAt_107 rfl rfl ?_
        refine x_get fa_V_19 dx_V_writtenAt_108 (by decide) rfl rfl ?_
        refine x_iload dx_V_writtenAt_111 rfl ?_
        refine x_iald dx_V_writtenAt_113 (by decide) rfl (by omega) (by omega) (by decide) ?_
        first
          | (exfalso; omega)
          | (have e : rest = 0 := by omega
             subst e
             rw [wr_0] at i4
             exact hret _ _ _ _ ⟨i4.symm.trans (if_pos h92), rfl⟩ rfl dx_V_writtenAt_114)
          | (have e : rest = 0 := by omega
             subst e
             rw [wr_0] at i4
             exact hret _ _ _ _ ⟨i4.symm.trans (if_neg h92), rfl⟩ rfl dx_V_writtenAt_114)
      ·
        refine x_iconst dx_V_writtenAt_95 ?_
        refine x_aload_n dx_V_writtenAt_96 rfl rfl ?_
        refine x_get fa_V_31 dx_V_writtenAt_97 (by decide) rfl rfl ?_
        refine x_iload dx_V_writtenAt_100 rfl ?_
        refine x_iald dx_V_writtenAt_102 (by decide) rfl (by omega) (by omega) (by decide) ?_
        refine x_isub dx_V_writtenAt_103 ?_
        refine x_goto (tgt := 114) dx_V_writtenAt_104 (by decide) ?_
        first
          | (exfalso; omega)
          | (have e : rest = 0 := by omega
             subst e
             rw [wr_0] at i4
             exact hret _ _ _ _ ⟨i4.symm.trans (if_pos h92), rfl⟩ rfl dx_V_writtenAt_114)
          | (have e : rest = 0 := by omega
             subst e
             rw [wr_0] at i4
             exact hret _ _ _ _ ⟨i4.symm.trans (if_neg h92), rfl⟩ rfl dx_V_writtenAt_114)
    ·
      have h20 := zc_gt0 h20
      have q9 := wr_args hT i1 h20 i3
      have hva := hT.2 part i1
      have a1 : σ.2.1 13 part = -1 ∨ (0 ≤ σ.2.1 13 part ∧ σ.2.1 13 part < 40) := by have := hva.1; omega
      have B := vt_bounds hT (show σ.2.1 13 part = -1 ∨ In (σ.1 3) (σ.2.1 13 part) by have := hva.1; omega)
      have bp := p2_le (show (σ.1 3).toNat ≤ 40 by omega)
      rw [p2_40] at bp
      refine x_lload dx_V_writtenAt_23 rfl ?_
      refine x_lconst (z := 1) dx_V_writtenAt_25 (by decide) ?_
      refine x_lsub dx_V_writtenAt_26 ?_
      refine x_lstore dx_V_writtenAt_27 (by decide) ?_
      refine x_aload_n dx_V_writtenAt_29 rfl rfl ?_
      refine x_aload_n dx_V_writtenAt_30 rfl rfl ?_
      refine x_get fa_V_22 dx_V_writtenAt_31 (by decide) rfl rfl ?_
      refine x_iload dx_V_writtenAt_34 rfl ?_
      refine x_iald dx_V_writtenAt_36 (by decide) rfl (by omega) (by omega) (by decide) ?_
      refine x_cvl1 (c_V_sizeOrNone (hs.2.1 _ _) a1) cf_V_94 ⟨rfl, rfl, by decide, by decide⟩ ⟨Nat.zero_le _, Nat.zero_le _⟩ (wl_get (by decide)) rfl rfl (Nat.le_of_ble_eq_true rfl) dx_V_writtenAt_37 (fun z u hp => ?_)
      obtain ⟨rfl, rfl⟩ := hp
      refine x_lstore dx_V_writtenAt_40 (by decide) ?_
      refine x_lload dx_V_writtenAt_42 rfl ?_
      refine x_lload dx_V_writtenAt_44 rfl ?_
      refine x_lcmp dx_V_writtenAt_46 ⟨by omega, by omega⟩ ⟨by omega, by omega⟩ ?_
      refine x_if_ge (tgt := 62) dx_V_writtenAt_47 (by decide) (zc_rg _ _) (fun h47 => ?_) (fun h47 => ?_)
      ·
        have h47 := zc_ge0 h47
        obtain ⟨p1, p2, p3⟩ := q9.2 (by omega)
        refine x_lload dx_V_writtenAt_62 rfl ?_
        refine x_lload dx_V_writtenAt_64 rfl ?_
        refine x_lsub dx_V_writtenAt_66 ?_
        refine x_lstore dx_V_writtenAt_67 (by decide) ?_
        refine x_aload_n dx_V_writtenAt_69 rfl rfl ?_
        refine x_get fa_V_25 dx_V_writtenAt_70 (by decide) rfl rfl ?_
        refine x_iload dx_V_writtenAt_73 rfl ?_
        refine x_iald dx_V_writtenAt_75 (by decide) rfl (by omega) (by omega) (by decide) ?_
        refine x_istore dx_V_writtenAt_76 (by decide) ?_
        refine x_iinc dx_V_writtenAt_78 rfl (by decide) ?_
        refine x_goto (tgt := 9) dx_V_writtenAt_81 (by decide) ?_
        first
          | (refine x_lv [(0, .ref (ad 3)), (4, .int (zI (σ.2.1 13 part))), (5, .long (zL (rest - 1))), (7, .int (zI (lev + 1)))] rfl ?_; exact ih9 ((lev + 1), (σ.2.1 13 part), (rest - 1)) ⟨by dsimp only; omega, ⟨p1.1, by dsimp only; omega⟩, by dsimp only; omega, p2, by dsimp only; rw [← i4, wr_1 hT i1 h20 i3 h47], by dsimp only; omega⟩ (by dsimp only; omega))
          | (refine x_lv [(0, .ref (ad 3)), (4, .int (zI (σ.2.1 14 part))), (5, .long (zL (rest - 1 - soF (σ.2.2 17) (σ.2.1 13 part)))), (7, .int (zI (lev + 1)))] rfl ?_; exact ih9 ((lev + 1), (σ.2.1 14 part), (rest - 1 - soF (σ.2.2 17) (σ.2.1 13 part))) ⟨by dsimp only; omega, ⟨p1.1, by dsimp only; omega⟩, p2, p3, by dsimp only; rw [← i4, wr_2 hT i1 h20 i3 (by omega)], by dsimp only; omega⟩ (by dsimp only; omega))
      ·
        have h47 := zc_lt0 h47
        obtain ⟨p1, p2⟩ := q9.1 h47
        refine x_aload_n dx_V_writtenAt_50 rfl rfl ?_
        refine x_get fa_V_22 dx_V_writtenAt_51 (by decide) rfl rfl ?_
        refine x_iload dx_V_writtenAt_54 rfl ?_
        refine x_iald dx_V_writtenAt_56 (by decide) rfl (by omega) (by omega) (by decide) ?_
        refine x_istore dx_V_writtenAt_57 (by decide) ?_
        refine x_goto (tgt := 78) dx_V_writtenAt_59 (by decide) ?_
        refine x_iinc dx_V_writtenAt_78 rfl (by decide) ?_
        refine x_goto (tgt := 9) dx_V_writtenAt_81 (by decide) ?_
        first
          | (refine x_lv [(0, .ref (ad 3)), (4, .int (zI (σ.2.1 13 part))), (5, .long (zL (rest - 1))), (7, .int (zI (lev + 1)))] rfl ?_; exact ih9 ((lev + 1), (σ.2.1 13 part), (rest - 1)) ⟨by dsimp only; omega, ⟨p1.1, by dsimp only; omega⟩, by dsimp only; omega, p2, by dsimp only; rw [← i4, wr_1 hT i1 h20 i3 h47], by dsimp only; omega⟩ (by dsimp only; omega))
          | (refine x_lv [(0, .ref (ad 3)), (4, .int (zI (σ.2.1 14 part))), (5, .long (zL (rest - 1 - soF (σ.2.2 17) (σ.2.1 13 part)))), (7, .int (zI (lev + 1)))] rfl ?_; exact ih9 ((lev + 1), (σ.2.1 14 part), (rest - 1 - soF (σ.2.2 17) (σ.2.1 13 part))) ⟨by dsimp only; omega, ⟨p1.1, by dsimp only; omega⟩, p2, p3, by dsimp only; rw [← i4, wr_2 hT i1 h20 i3 (by omega)], by dsimp only; omega⟩ (by dsimp only; omega))
set_option maxRecDepth 100000 in
set_option maxHeartbeats 4000000 in
theorem c_T_at {l : Launch} {D : va_G} {ca : Nat → ClassId} {ad : Nat → Nat} {σ : S0} {s i : Int} {e1 e2 : Int → Int} (hI : INV σ e1 e2) (hs : Rg s) (hi : RgL i) : CXI l mn_T_at kw_T_at (rmx 7 2 12) 2 12 D ca [.ref (ad 0), .int (zI s), .long (zL i)] (wg 82 LT ca ad σ) (fun z u => In (σ.1 0) s ∧ (0 ≤ i ∧ i < σ.2.2 17 (σ.2.1 11 s)) ∧ wr σ (σ.2.1 11 s) i = z ∧ σ = u) (fun E u => (E = rc_jA ∧ ¬ In (σ.1 0) s ∧ σ = u) ∨ (E = rc_jX ∧ In (σ.1 0) s ∧ ¬ (0 ≤ i ∧ i < σ.2.2 17 (σ.2.1 11 s)) ∧ σ = u)) (wg 82 LT ca ad) := by
  refine cxi_in rc_T cd_T_at 5 .int rfl rfl (by decide) (Nat.le_of_ble_eq_true rfl) ⟨by decide, by decide, by decide, by decide⟩ (fun κ h1 h2 h3 Z hret hthr hout => ?_)
  subst h1; subst h2; subst h3
  refine x_lv [(0, .ref (ad 0)), (1, .int (zI s)), (2, .long (zL i))] rfl ?_
  have hn := hI.1.2.1.2.1
  refine x_aload_n dx_T_at_0 rfl rfl ?_
  refine x_iload_n dx_T_at_1 rfl rfl ?_
  refine x_tv1 (c_T_needNode hI.1.1 hs) cf_T_107 Z ⟨rfl, rfl, by decide, by decide⟩ ⟨by decide, by decide⟩ (wl_get (by decide)) rfl rfl (Nat.le_of_ble_eq_true rfl) dx_T_at_2 (fun E9 u hp => hout _ _ _ _ _ _ (Or.inl hp) (by decide) (by decide)) (fun u hp => ?_)
  obtain ⟨gs, rfl⟩ := hp
  have gv := (hI.2.2.2.2.1 s gs).1
  have g40 := hI.2.2.2.1
  refine x_aload_n dx_T_at_5 rfl rfl ?_
  refine x_get fa_T_28 dx_T_at_6 (by decide) rfl rfl ?_
  refine x_get fa_T_110 dx_T_at_9 (by decide) rfl rfl ?_
  refine x_iload_n dx_T_at_12 rfl rfl ?_
  refine x_iald dx_T_at_13 (by decide) rfl (by omega) (by omega) (by decide) ?_
  refine x_istore dx_T_at_14 (by decide) ?_
  refine x_lload_n dx_T_at_16 rfl rfl ?_
  refine x_lconst (z := 0) dx_T_at_17 (by decide) ?_
  refine x_lcmp dx_T_at_18 hi ⟨by decide, by decide⟩ ?_
  refine x_if_lt (tgt := 37) dx_T_at_19 (by decide) (zc_rg _ _) (fun h19 => ?_) (fun h19 => ?_)
  ·
    have h19 := zc_lt0 h19
    exact hthr rc_jX _ _ _ _ _ _ (Or.inr ⟨rfl, gs, by omega, rfl⟩) tf_T_at_37 (by decide) (by decide) (Nat.le_of_ble_eq_true rfl)
  ·
    have h19 := zc_ge0 h19
    refine x_lload_n dx_T_at_22 rfl rfl ?_
    refine x_aload_n dx_T_at_23 rfl rfl ?_
    refine x_get fa_T_28 dx_T_at_24 (by decide) rfl rfl ?_
    refine x_get fa_T_117 dx_T_at_27 (by decide) rfl rfl ?_
    refine x_iload dx_T_at_30 rfl ?_
    refine x_lald dx_T_at_32 (by decide) rfl (by omega) (by omega) (by decide) ?_
    refine x_lcmp dx_T_at_33 hi (hI.1.1.2.2 _ _ (by decide)) ?_
    refine x_if_lt (tgt := 47) dx_T_at_34 (by decide) (zc_rg _ _) (fun h34 => ?_) (fun h34 => ?_)
    ·
      have h34 := zc_lt0 h34
      refine x_aload_n dx_T_at_47 rfl rfl ?_
      refine x_get fa_T_28 dx_T_at_48 (by decide) rfl rfl ?_
      refine x_iload dx_T_at_51 rfl ?_
      refine x_lload_n dx_T_at_53 rfl rfl ?_
      refine x_cvi2 (c_V_writtenAt hI.1.1 hI.2.1 g40 gv h19 h34) cf_T_138 ⟨rfl, rfl, by decide, by decide⟩ ⟨by decide, by decide⟩ (wl_get (by decide)) rfl rfl (Nat.le_of_ble_eq_true rfl) dx_T_at_54 (fun z u hp => ?_)
      obtain ⟨rfl, rfl⟩ := hp
      exact hret _ _ _ _ _ _ (by decide) (by decide) ⟨gs, ⟨h19, h34⟩, rfl, rfl⟩ rfl dx_T_at_57
    ·
      have h34 := zc_ge0 h34
      exact hthr rc_jX _ _ _ _ _ _ (Or.inr ⟨rfl, gs, by omega, rfl⟩) tf_T_at_37 (by decide) (by decide) (Nat.le_of_ble_eq_true rfl)
