set_option maxRecDepth 100000 in
set_option maxHeartbeats 4000000 in
theorem c_V_settleRound {l : Launch} {D : va_G} {ca : Nat → ClassId} {ad : Nat → Nat} {σ : S0} {r : Nat} (hs : Ok σ) (hr : r < 21) (hT : Tb (σ.1 0) (σ.2.1 5) (σ.2.1 6) (σ.2.1 7)) (hR : RowOk (σ.1 0) (σ.2.1 5) (σ.2.1 (21 + r))) (hSI : SI (σ.1 0) (σ.2.1 5) (σ.2.1 6) (σ.2.1 7) (σ.2.1 (21 + r)) σ) : CI l mn_V_settleRound kw_V_settleRound (rmk 4) D ca [.ref (ad 3), .ref (ad (21 + r))] (wg 82 LT ca ad σ) (fun z u => RJ (σ.1 0) (σ.2.1 5) (σ.2.1 6) (σ.2.1 7) (σ.2.1 (21 + r)) σ (σ.1 0) z u) (wg 82 LT ca ad) := by
  refine ci_in rc_V cd_V_settleRound 4 .int rfl rfl (by decide) (Nat.le_of_ble_eq_true rfl) (fun κ h1 h2 h3 hret => ?_)
  subst h1; subst h2; subst h3
  refine x_lv [(0, .ref (ad 3)), (1, .ref (ad (21 + r)))] rfl ?_
  have hn0 := hT.1
  have hn := hT.2.1
  refine x_iconst dx_V_settleRound_0 ?_
  refine x_istore_n dx_V_settleRound_1 rfl (by decide) ?_
  refine x_iconst dx_V_settleRound_2 ?_
  refine x_istore_n dx_V_settleRound_3 rfl (by decide) ?_
  refine x_lv [(0, .ref (ad 3)), (1, .ref (ad (21 + r))), (2, .int (zI 0)), (3, .int (zI 0))] rfl ?_
  refine x_loop (fun a : Int × Int × S0 => X κ (rmk 4) rc_V cd_V_settleRound 4 (wg 82 LT κ.2.2.1.2.2 ad a.2.2) 0 0 4 [(0, .ref (ad 3)), (1, .ref (ad (21 + r))), (2, .int (zI a.2.1)), (3, .int (zI a.1))] []) (fun a => 0 ≤ a.1 ∧ a.1 ≤ σ.1 0 ∧ RJ (σ.1 0) (σ.2.1 5) (σ.2.1 6) (σ.2.1 7) (σ.2.1 (21 + r)) σ a.1 a.2.1 a.2.2) (fun a => (σ.1 0 - a.1).toNat) (fun a hi4 ih4 => ?_) (0, 0, σ) ⟨Int.le_refl _, hn0, rj_0 hSI hs⟩
  obtain ⟨x, c, τ⟩ := a
  dsimp only at hi4 ⊢
  obtain ⟨hx0, hx1, hJ⟩ := hi4
  have hJ9 := hJ
  obtain ⟨jS, jF, jO, j4, j5, j6⟩ := hJ9
  have e0 : τ.1 0 = σ.1 0 := jF.1
  have e5 : τ.2.1 5 = σ.2.1 5 := jF.2.2.2.2.1 5 (by omega)
  have e6 : τ.2.1 6 = σ.2.1 6 := jF.2.2.2.2.1 6 (by omega)
  have e7 : τ.2.1 7 = σ.2.1 7 := jF.2.2.2.2.1 7 (by omega)
  have eR : τ.2.1 (21 + r) = σ.2.1 (21 + r) := jF.2.2.2.2.1 (21 + r) (by omega)
  refine x_iload_n dx_V_settleRound_4 rfl rfl ?_
  refine x_aload_n dx_V_settleRound_5 rfl rfl ?_
  refine x_get fa_V_9 dx_V_settleRound_6 (by decide) rfl rfl ?_
  refine x_get fa_V_65 dx_V_settleRound_9 (by decide) rfl rfl ?_
  refine x_icmp_ge (tgt := 80) dx_V_settleRound_12 (by decide) ⟨by omega, by omega⟩ (jO.1 _) (fun h12 => ?_) (fun h12 => ?_)
  ·
    rw [e0] at h12
    refine x_iload_n dx_V_settleRound_80 rfl rfl ?_
    have e : x = σ.1 0 := Int.le_antisymm hx1 h12
    subst e
    exact hret _ _ _ _ hJ rfl dx_V_settleRound_81
  ·
    rw [e0] at h12
    have hin : In (σ.1 0) x := ⟨hx0, h12⟩
    refine x_aload_n dx_V_settleRound_15 rfl rfl ?_
    refine x_iload_n dx_V_settleRound_16 rfl rfl ?_
    refine x_iald dx_V_settleRound_17 (by omega) (kT_row hr) (by omega) (by omega) (by decide) ?_
    refine x_iload_n dx_V_settleRound_18 rfl rfl ?_
    refine x_icmp_ne (tgt := 74) dx_V_settleRound_19 (by decide) (jO.2.1 _ _) ⟨by omega, by omega⟩ (fun h19 => ?_) (fun h19 => ?_)
    ·
      rw [eR] at h19
      refine x_iinc dx_V_settleRound_74 rfl (by decide) ?_
      refine x_goto (tgt := 4) dx_V_settleRound_77 (by decide) ?_
      first
        | (refine x_lv [(0, .ref (ad 3)), (1, .ref (ad (21 + r))), (2, .int (zI (c + 1))), (3, .int (zI (x + 1)))] rfl ?_; exact ih4 ((x + 1), (c + 1), _) ⟨by dsimp only; omega, by dsimp only; omega, by
                                                                first
                                                                  | exact rj_set hJ (si_adw hT jS hin h19 h29 h54) (frv_adw.trans (frv_F (by omega))) (ok_stF (ok_adw jO jS.1 hm hfree) ⟨by omega, by omega⟩)
                                                                  | exact rj_set hJ (si_found jS hin h19 h29 h38 h54 hz m1 m2 m3) (frv_F (by omega)) (ok_stF jO ⟨by omega, by omega⟩)
                                                                  | exact rj_set hJ (si_adv hT hR jS hin h19 h29 h38 h54 hno) (frv_adv.trans (frv_F (by omega))) (ok_stF (ok_adv jO jS.1 hm hav.1 hav.2 (hs.2.1 _ _)) ⟨by omega, by omega⟩)⟩ (by dsimp only; omega))
        | (refine x_lv [(0, .ref (ad 3)), (1, .ref (ad (21 + r))), (2, .int (zI c)), (3, .int (zI (x + 1)))] rfl ?_; exact ih4 ((x + 1), c, _) ⟨by dsimp only; omega, by dsimp only; omega, rj_skip hJ (by
                                                                first
                                                                  | exact fun q => h19 q.1
                                                                  | exact fun q => h29 q.2.1
                                                                  | exact fun q => h38 q.2.2)⟩ (by dsimp only; omega))
    ·
      rw [eR] at h19
      refine x_aload_n dx_V_settleRound_22 rfl rfl ?_
      refine x_get fa_V_15 dx_V_settleRound_23 (by decide) rfl rfl ?_
      refine x_iload_n dx_V_settleRound_26 rfl rfl ?_
      refine x_iald dx_V_settleRound_27 (by decide) rfl (by omega) (by omega) (by decide) ?_
      refine x_iconst dx_V_settleRound_28 ?_
      refine x_icmp_ne (tgt := 74) dx_V_settleRound_29 (by decide) (jO.2.1 _ _) ⟨by decide, by decide⟩ (fun h29 => ?_) (fun h29 => ?_)
      ·
        refine x_iinc dx_V_settleRound_74 rfl (by decide) ?_
        refine x_goto (tgt := 4) dx_V_settleRound_77 (by decide) ?_
        first
          | (refine x_lv [(0, .ref (ad 3)), (1, .ref (ad (21 + r))), (2, .int (zI (c + 1))), (3, .int (zI (x + 1)))] rfl ?_; exact ih4 ((x + 1), (c + 1), _) ⟨by dsimp only; omega, by dsimp only; omega, by
                                                                first
                                                                  | exact rj_set hJ (si_adw hT jS hin h19 h29 h54) (frv_adw.trans (frv_F (by omega))) (ok_stF (ok_adw jO jS.1 hm hfree) ⟨by omega, by omega⟩)
                                                                  | exact rj_set hJ (si_found jS hin h19 h29 h38 h54 hz m1 m2 m3) (frv_F (by omega)) (ok_stF jO ⟨by omega, by omega⟩)
                                                                  | exact rj_set hJ (si_adv hT hR jS hin h19 h29 h38 h54 hno) (frv_adv.trans (frv_F (by omega))) (ok_stF (ok_adv jO jS.1 hm hav.1 hav.2 (hs.2.1 _ _)) ⟨by omega, by omega⟩)⟩ (by dsimp only; omega))
          | (refine x_lv [(0, .ref (ad 3)), (1, .ref (ad (21 + r))), (2, .int (zI c)), (3, .int (zI (x + 1)))] rfl ?_; exact ih4 ((x + 1), c, _) ⟨by dsimp only; omega, by dsimp only; omega, rj_skip hJ (by
                                                                first
                                                                  | exact fun q => h19 q.1
                                                                  | exact fun q => h29 q.2.1
                                                                  | exact fun q => h38 q.2.2)⟩ (by dsimp only; omega))
      ·
        have ha := arg_fa hT hR hin
        have hb := arg_sa hT hR hin
        rw [← e6, ← eR] at ha
        rw [← e7, ← eR] at hb
        refine x_aload_n dx_V_settleRound_32 rfl rfl ?_
        refine x_aload_n dx_V_settleRound_33 rfl rfl ?_
        refine x_iload_n dx_V_settleRound_34 rfl rfl ?_
        refine x_cvi2 (c_V_hasSettledArguments jO hr hx0 (by omega) ha hb) cf_V_68 ⟨rfl, rfl, by decide, by decide⟩ ⟨Nat.zero_le _, Nat.zero_le _⟩ (wl_get (by decide)) rfl rfl (Nat.le_of_ble_eq_true rfl) dx_V_settleRound_35 (fun z u hp => ?_)
        obtain ⟨rfl, rfl⟩ := hp
        refine x_ifb_eq (tgt := 74) dx_V_settleRound_38 (by decide) (fun h38 => ?_) (fun h38 => ?_)
        ·
          rw [e6, e7, eR] at h38
          refine x_iinc dx_V_settleRound_74 rfl (by decide) ?_
          refine x_goto (tgt := 4) dx_V_settleRound_77 (by decide) ?_
          first
            | (refine x_lv [(0, .ref (ad 3)), (1, .ref (ad (21 + r))), (2, .int (zI (c + 1))), (3, .int (zI (x + 1)))] rfl ?_; exact ih4 ((x + 1), (c + 1), _) ⟨by dsimp only; omega, by dsimp only; omega, by
                                                                first
                                                                  | exact rj_set hJ (si_adw hT jS hin h19 h29 h54) (frv_adw.trans (frv_F (by omega))) (ok_stF (ok_adw jO jS.1 hm hfree) ⟨by omega, by omega⟩)
                                                                  | exact rj_set hJ (si_found jS hin h19 h29 h38 h54 hz m1 m2 m3) (frv_F (by omega)) (ok_stF jO ⟨by omega, by omega⟩)
                                                                  | exact rj_set hJ (si_adv hT hR jS hin h19 h29 h38 h54 hno) (frv_adv.trans (frv_F (by omega))) (ok_stF (ok_adv jO jS.1 hm hav.1 hav.2 (hs.2.1 _ _)) ⟨by omega, by omega⟩)⟩ (by dsimp only; omega))
            | (refine x_lv [(0, .ref (ad 3)), (1, .ref (ad (21 + r))), (2, .int (zI c)), (3, .int (zI (x + 1)))] rfl ?_; exact ih4 ((x + 1), c, _) ⟨by dsimp only; omega, by dsimp only; omega, rj_skip hJ (by
                                                                first
                                                                  | exact fun q => h19 q.1
                                                                  | exact fun q => h29 q.2.1
                                                                  | exact fun q => h38 q.2.2)⟩ (by dsimp only; omega))
        ·
          rw [e6, e7, eR] at h38
          have hav := si_args hT hR jS hin h38
          have hm : τ.1 3 < 40 := by
            have q1 := jS.2.2.2.2.2.2.1
            have q2 := stl_lt (τ := τ) hin h19 h29
            have q3 := (reps_le (σ.2.1 (21 + r)) hn0).2
            omega
          have hfree : Rg (τ.1 4 + 1) := by
            have q1 := jS.2.2.2.2.2.2.2.1
            have q2 := sfr_le hn0 (σ.2.1 5) (σ.2.1 (21 + r)) τ
            exact ⟨by omega, by omega⟩
          have h03 := jS.1.1
          refine x_aload_n dx_V_settleRound_41 rfl rfl ?_
          refine x_get fa_V_15 dx_V_settleRound_42 (by decide) rfl rfl ?_
          refine x_iload_n dx_V_settleRound_45 rfl rfl ?_
          refine x_aload_n dx_V_settleRound_46 rfl rfl ?_
          refine x_get fa_V_9 dx_V_settleRound_47 (by decide) rfl rfl ?_
          refine x_iload_n dx_V_settleRound_50 rfl rfl ?_
          refine x_cvi1 (c_N_isVariable jO hx0 (by omega)) cf_V_72 ⟨rfl, rfl, by decide, by decide⟩ ⟨Nat.zero_le _, Nat.zero_le _⟩ (wl_get (by decide)) rfl rfl (Nat.le_of_ble_eq_true rfl) dx_V_settleRound_51 (fun z u hp => ?_)
          obtain ⟨rfl, rfl⟩ := hp
          refine x_ifb_eq (tgt := 64) dx_V_settleRound_54 (by decide) (fun h54 => ?_) (fun h54 => ?_)
          ·
            rw [e5] at h54
            have hvl := hav
            rw [← e6, ← e7, ← eR] at hvl
            refine x_aload_n dx_V_settleRound_64 rfl rfl ?_
            refine x_aload_n dx_V_settleRound_65 rfl rfl ?_
            refine x_iload_n dx_V_settleRound_66 rfl rfl ?_
            refine x_cvi2 (c_V_valueLike jO hr hx0 (by omega) ha hb jS.1 hm hvl.1 hvl.2) cf_V_80 ⟨rfl, rfl, by decide, by decide⟩ ⟨Nat.zero_le _, Nat.zero_le _⟩ (wl_get (by decide)) rfl rfl (Nat.le_of_ble_eq_true rfl) dx_V_settleRound_67 (fun z u hp => ?_)
            rcases hp with ⟨hz, ⟨m1, m2, m3⟩, rfl⟩ | ⟨hno, rfl, rfl⟩
            ·
              rw [e5] at m1
              rw [e6, eR] at m2
              rw [e7, eR] at m3
              refine x_iast dx_V_settleRound_70 (by decide) rfl (by omega) (by omega) (by decide) ?_
              refine x_iinc dx_V_settleRound_71 rfl (by decide) ?_
              refine x_iinc dx_V_settleRound_74 rfl (by decide) ?_
              refine x_goto (tgt := 4) dx_V_settleRound_77 (by decide) ?_
              first
                | (refine x_lv [(0, .ref (ad 3)), (1, .ref (ad (21 + r))), (2, .int (zI (c + 1))), (3, .int (zI (x + 1)))] rfl ?_; exact ih4 ((x + 1), (c + 1), _) ⟨by dsimp only; omega, by dsimp only; omega, by
                                                                first
                                                                  | exact rj_set hJ (si_adw hT jS hin h19 h29 h54) (frv_adw.trans (frv_F (by omega))) (ok_stF (ok_adw jO jS.1 hm hfree) ⟨by omega, by omega⟩)
                                                                  | exact rj_set hJ (si_found jS hin h19 h29 h38 h54 hz m1 m2 m3) (frv_F (by omega)) (ok_stF jO ⟨by omega, by omega⟩)
                                                                  | exact rj_set hJ (si_adv hT hR jS hin h19 h29 h38 h54 hno) (frv_adv.trans (frv_F (by omega))) (ok_stF (ok_adv jO jS.1 hm hav.1 hav.2 (hs.2.1 _ _)) ⟨by omega, by omega⟩)⟩ (by dsimp only; omega))
                | (refine x_lv [(0, .ref (ad 3)), (1, .ref (ad (21 + r))), (2, .int (zI c)), (3, .int (zI (x + 1)))] rfl ?_; exact ih4 ((x + 1), c, _) ⟨by dsimp only; omega, by dsimp only; omega, rj_skip hJ (by
                                                                first
                                                                  | exact fun q => h19 q.1
                                                                  | exact fun q => h29 q.2.1
                                                                  | exact fun q => h38 q.2.2)⟩ (by dsimp only; omega))
            ·
              rw [e5, e6, e7, eR] at hno
              rw [e5, e6, e7, eR]
              refine x_iast dx_V_settleRound_70 (by decide) rfl (by omega) (by omega) (by decide) ?_
              refine x_iinc dx_V_settleRound_71 rfl (by decide) ?_
              refine x_iinc dx_V_settleRound_74 rfl (by decide) ?_
              refine x_goto (tgt := 4) dx_V_settleRound_77 (by decide) ?_
              first
                | (refine x_lv [(0, .ref (ad 3)), (1, .ref (ad (21 + r))), (2, .int (zI (c + 1))), (3, .int (zI (x + 1)))] rfl ?_; exact ih4 ((x + 1), (c + 1), _) ⟨by dsimp only; omega, by dsimp only; omega, by
                                                                first
                                                                  | exact rj_set hJ (si_adw hT jS hin h19 h29 h54) (frv_adw.trans (frv_F (by omega))) (ok_stF (ok_adw jO jS.1 hm hfree) ⟨by omega, by omega⟩)
                                                                  | exact rj_set hJ (si_found jS hin h19 h29 h38 h54 hz m1 m2 m3) (frv_F (by omega)) (ok_stF jO ⟨by omega, by omega⟩)
                                                                  | exact rj_set hJ (si_adv hT hR jS hin h19 h29 h38 h54 hno) (frv_adv.trans (frv_F (by omega))) (ok_stF (ok_adv jO jS.1 hm hav.1 hav.2 (hs.2.1 _ _)) ⟨by omega, by omega⟩)⟩ (by dsimp only; omega))
                | (refine x_lv [(0, .ref (ad 3)), (1, .ref (ad (21 + r))), (2, .int (zI c)), (3, .int (zI (x + 1)))] rfl ?_; exact ih4 ((x + 1), c, _) ⟨by dsimp only; omega, by dsimp only; omega, rj_skip hJ (by
                                                                first
                                                                  | exact fun q => h19 q.1
                                                                  | exact fun q => h29 q.2.1
                                                                  | exact fun q => h38 q.2.2)⟩ (by dsimp only; omega))
          ·
            rw [e5] at h54
            refine x_aload_n dx_V_settleRound_57 rfl rfl ?_
            refine x_cvi0 (c_V_addVariable jS.1 hm) cf_V_76 ⟨rfl, rfl, by decide, by decide⟩ ⟨Nat.zero_le _, Nat.zero_le _⟩ (wl_get (by decide)) rfl rfl (Nat.le_of_ble_eq_true rfl) dx_V_settleRound_58 (fun z u hp => ?_)
            obtain ⟨rfl, rfl⟩ := hp
            refine x_goto (tgt := 70) dx_V_settleRound_61 (by decide) ?_
            refine x_iast dx_V_settleRound_70 (by decide) rfl (by omega) (by omega) (by decide) ?_
            refine x_iinc dx_V_settleRound_71 rfl (by decide) ?_
            refine x_iinc dx_V_settleRound_74 rfl (by decide) ?_
            refine x_goto (tgt := 4) dx_V_settleRound_77 (by decide) ?_
            first
              | (refine x_lv [(0, .ref (ad 3)), (1, .ref (ad (21 + r))), (2, .int (zI (c + 1))), (3, .int (zI (x + 1)))] rfl ?_; exact ih4 ((x + 1), (c + 1), _) ⟨by dsimp only; omega, by dsimp only; omega, by
                                                                first
                                                                  | exact rj_set hJ (si_adw hT jS hin h19 h29 h54) (frv_adw.trans (frv_F (by omega))) (ok_stF (ok_adw jO jS.1 hm hfree) ⟨by omega, by omega⟩)
                                                                  | exact rj_set hJ (si_found jS hin h19 h29 h38 h54 hz m1 m2 m3) (frv_F (by omega)) (ok_stF jO ⟨by omega, by omega⟩)
                                                                  | exact rj_set hJ (si_adv hT hR jS hin h19 h29 h38 h54 hno) (frv_adv.trans (frv_F (by omega))) (ok_stF (ok_adv jO jS.1 hm hav.1 hav.2 (hs.2.1 _ _)) ⟨by omega, by omega⟩)⟩ (by dsimp only; omega))
              | (refine x_lv [(0, .ref (ad 3)), (1, .ref (ad (21 + r))), (2, .int (zI c)), (3, .int (zI (x + 1)))] rfl ?_; exact ih4 ((x + 1), c, _) ⟨by dsimp only; omega, by dsimp only; omega, rj_skip hJ (by
                                                                first
                                                                  | exact fun q => h19 q.1
                                                                  | exact fun q => h29 q.2.1
                                                                  | exact fun q => h38 q.2.2)⟩ (by dsimp only; omega))
set_option maxRecDepth 100000 in
set_option maxHeartbeats 4000000 in
theorem c_V_findLeaders {l : Launch} {D : va_G} {ca : Nat → ClassId} {ad : Nat → Nat} {σ : S0} {r : Nat} (hs : Ok σ) (hr : r < 21) (hT : Tb (σ.1 0) (σ.2.1 5) (σ.2.1 6) (σ.2.1 7)) (hR : RowOk (σ.1 0) (σ.2.1 5) (σ.2.1 (21 + r))) (hv : ∀ x, In (σ.1 0) x → In (σ.1 3) (σ.2.1 11 (σ.2.1 (21 + r) x))) (hl : ∀ v, In (σ.1 3) v → σ.2.1 16 v = -1) (h40 : σ.1 3 ≤ 40) : CV l mn_V_findLeaders kw_V_findLeaders (rmk 1) D ca [.ref (ad 3), .ref (ad (21 + r))] (wg 82 LT ca ad σ) (fun u => FL (σ.1 0) (σ.2.1 (21 + r)) σ (σ.1 0) u) (wg 82 LT ca ad) := by
  refine cv_in rc_V cd_V_findLeaders 4 rfl rfl (by decide) (Nat.le_of_ble_eq_true rfl) (fun κ h1 h2 h3 hret => ?_)
  subst h1; subst h2; subst h3
  refine x_lv [(0, .ref (ad 3)), (1, .ref (ad (21 + r)))] rfl ?_
  have hn0 := hT.1
  have hn := hT.2.1
  refine x_iconst dx_V_findLeaders_0 ?_
  refine x_istore_n dx_V_findLeaders_1 rfl (by decide) ?_
  refine x_lv [(0, .ref (ad 3)), (1, .ref (ad (21 + r))), (2, .int (zI 0))] rfl ?_
  refine x_loop (fun a : Int × S0 => X κ (rmk 1) rc_V cd_V_findLeaders 4 (wg 82 LT κ.2.2.1.2.2 ad a.2) 0 0 2 [(0, .ref (ad 3)), (1, .ref (ad (21 + r))), (2, .int (zI a.1))] []) (fun a => 0 ≤ a.1 ∧ a.1 ≤ σ.1 0 ∧ FL (σ.1 0) (σ.2.1 (21 + r)) σ a.1 a.2) (fun a => (σ.1 0 - a.1).toNat) (fun a hi2 ih2 => ?_) (0, σ) ⟨Int.le_refl _, hn0, fl_0 hs hl⟩
  obtain ⟨x, τ⟩ := a
  dsimp only at hi2 ⊢
  obtain ⟨hx0, hx1, hJ⟩ := hi2
  have jF := hJ.1
  have jO := hJ.2.1
  have e0 : τ.1 0 = σ.1 0 := by rw [jF.1]
  have eR : τ.2.1 (21 + r) = σ.2.1 (21 + r) := jF.2.1 (21 + r) (by omega) (by omega)
  refine x_iload_n dx_V_findLeaders_2 rfl rfl ?_
  refine x_aload_n dx_V_findLeaders_3 rfl rfl ?_
  refine x_get fa_V_9 dx_V_findLeaders_4 (by decide) rfl rfl ?_
  refine x_get fa_V_65 dx_V_findLeaders_7 (by decide) rfl rfl ?_
  refine x_icmp_ge (tgt := 52) dx_V_findLeaders_10 (by decide) ⟨by omega, by omega⟩ (jO.1 _) (fun h10 => ?_) (fun h10 => ?_)
  ·
    rw [e0] at h10
    have e : x = σ.1 0 := Int.le_antisymm hx1 h10
    subst e
    exact hret _ _ _ hJ dx_V_findLeaders_52
  ·
    rw [e0] at h10
    have hin : In (σ.1 0) x := ⟨hx0, h10⟩
    have ri := (hR x hin).1
    have hvi := hv x hin
    refine x_aload_n dx_V_findLeaders_13 rfl rfl ?_
    refine x_get fa_V_15 dx_V_findLeaders_14 (by decide) rfl rfl ?_
    refine x_aload_n dx_V_findLeaders_17 rfl rfl ?_
    refine x_iload_n dx_V_findLeaders_18 rfl rfl ?_
    refine x_iald dx_V_findLeaders_19 (by omega) (kT_row hr) (by omega) (by omega) (by decide) ?_
    refine x_iald dx_V_findLeaders_20 (by decide) rfl (by rw [eR]; exact ri.1) (by rw [eR]; omega) (by decide) ?_
    rw [eR, fl_read hR hJ hin]
    refine x_istore_n dx_V_findLeaders_21 rfl (by decide) ?_
    refine x_aload_n dx_V_findLeaders_22 rfl rfl ?_
    refine x_get fa_V_15 dx_V_findLeaders_23 (by decide) rfl rfl ?_
    refine x_iload_n dx_V_findLeaders_26 rfl rfl ?_
    refine x_iload_n dx_V_findLeaders_27 rfl rfl ?_
    refine x_iast dx_V_findLeaders_28 (by decide) rfl (by omega) (by omega) (by decide) ?_
    refine x_aload_n dx_V_findLeaders_29 rfl rfl ?_
    refine x_get fa_V_31 dx_V_findLeaders_30 (by decide) rfl rfl ?_
    refine x_iload_n dx_V_findLeaders_33 rfl rfl ?_
    refine x_iald dx_V_findLeaders_34 (by decide) rfl (by omega) (by omega) (by decide) ?_
    refine x_iconst dx_V_findLeaders_35 ?_
    refine x_icmp_ne (tgt := 46) dx_V_findLeaders_36 (by decide) (jO.2.1 _ _) ⟨by decide, by decide⟩ (fun h36 => ?_) (fun h36 => ?_)
    ·
      refine x_iinc dx_V_findLeaders_46 rfl (by decide) ?_
      refine x_goto (tgt := 2) dx_V_findLeaders_49 (by decide) ?_
      refine x_lv [(0, .ref (ad 3)), (1, .ref (ad (21 + r))), (2, .int (zI (x + 1)))] rfl ?_
      exact ih2 ((x + 1), _) ⟨by dsimp only; omega, by dsimp only; omega, by
                                                                first
                                                                  | exact fl_ne hJ hin rfl hvi (by omega) h36
                                                                  | exact fl_eq hJ hin (by omega) rfl hvi (by omega) h36⟩ (by dsimp only; omega)
    ·
      refine x_aload_n dx_V_findLeaders_39 rfl rfl ?_
      refine x_get fa_V_31 dx_V_findLeaders_40 (by decide) rfl rfl ?_
      refine x_iload_n dx_V_findLeaders_43 rfl rfl ?_
      refine x_iload_n dx_V_findLeaders_44 rfl rfl ?_
      refine x_iast dx_V_findLeaders_45 (by decide) rfl (by omega) (by omega) (by decide) ?_
      refine x_iinc dx_V_findLeaders_46 rfl (by decide) ?_
      refine x_goto (tgt := 2) dx_V_findLeaders_49 (by decide) ?_
      refine x_lv [(0, .ref (ad 3)), (1, .ref (ad (21 + r))), (2, .int (zI (x + 1)))] rfl ?_
      exact ih2 ((x + 1), _) ⟨by dsimp only; omega, by dsimp only; omega, by
                                                                first
                                                                  | exact fl_ne hJ hin rfl hvi (by omega) h36
                                                                  | exact fl_eq hJ hin (by omega) rfl hvi (by omega) h36⟩ (by dsimp only; omega)
set_option maxRecDepth 100000 in
set_option maxHeartbeats 4000000 in
theorem c_V_settle {l : Launch} {D : va_G} {ca : Nat → ClassId} {ad : Nat → Nat} {σ : S0} {r : Nat} (hs : Ok σ) (hr : r < 21) (hT : Tb (σ.1 0) (σ.2.1 5) (σ.2.1 6) (σ.2.1 7)) (hR : RowOk (σ.1 0) (σ.2.1 5) (σ.2.1 (21 + r))) : CI l mn_V_settle kw_V_settle (rmk 5) D ca [.ref (ad 3), .ref (ad (21 + r))] (wg 82 LT ca ad σ) (fun z u => FRv σ u ∧ Ok u ∧ ((1 = z ∧ VF (σ.1 0) (σ.2.1 5) (σ.2.1 6) (σ.2.1 7) (σ.2.1 (21 + r)) u) ∨ (0 = z ∧ ST (σ.1 0) (σ.2.1 5) (σ.2.1 6) (σ.2.1 7) (σ.2.1 (21 + r)) u))) (wg 82 LT ca ad) := by
  refine ci_in rc_V cd_V_settle 5 .boolean rfl rfl (by decide) (Nat.le_of_ble_eq_true rfl) (fun κ h1 h2 h3 hret => ?_)
  subst h1; subst h2; subst h3
  refine x_lv [(0, .ref (ad 3)), (1, .ref (ad (21 + r)))] rfl ?_
  have hn0 := hT.1
  have hn := hT.2.1
  refine x_aload_n dx_V_settle_0 rfl rfl ?_
  refine x_get fa_V_15 dx_V_settle_1 (by decide) rfl rfl ?_
  refine x_iconst dx_V_settle_4 ?_
  refine x_csv2 (c_jY_fill_0 (j := 11) (by decide) rfl (by decide)) cf_V_48 ⟨rfl, rfl, by decide, by decide⟩ ⟨Nat.zero_le _, Nat.zero_le _⟩ (Nat.le_of_ble_eq_true rfl) dx_V_settle_5 (fun u hp => ?_)
  subst hp
  refine x_aload_n dx_V_settle_8 rfl rfl ?_
  refine x_iconst dx_V_settle_9 ?_
  refine x_put fp_V_41 io_vmade dx_V_settle_10 (by decide) rfl rfl ?_
  refine x_aload_n dx_V_settle_13 rfl rfl ?_
  refine x_iconst dx_V_settle_14 ?_
  refine x_put fp_V_45 io_free dx_V_settle_15 (by decide) rfl rfl ?_
  refine x_aload_n dx_V_settle_18 rfl rfl ?_
  refine x_aload_n dx_V_settle_19 rfl rfl ?_
  refine x_cvi1 (c_V_countClasses (σ := st0 σ) (ok_st0 hs) hr hn0 hn) cf_V_54 ⟨rfl, rfl, by decide, by decide⟩ ⟨Nat.zero_le _, Nat.zero_le _⟩ (wl_get (by decide)) rfl rfl (Nat.le_of_ble_eq_true rfl) dx_V_settle_20 (fun z u hp => ?_)
  obtain ⟨rfl, rfl⟩ := hp
  rw [show (st0 σ).2.1 (21 + r) = σ.2.1 (21 + r) from (frv_st0 σ).2.2.2.2.1 (21 + r) (by omega)]
  refine x_istore_n dx_V_settle_23 rfl (by decide) ?_
  refine x_iconst dx_V_settle_24 ?_
  refine x_istore_n dx_V_settle_25 rfl (by decide) ?_
  refine x_lv [(0, .ref (ad 3)), (1, .ref (ad (21 + r))), (2, .int (zI (reps (σ.2.1 (21 + r)) (σ.1 0)))), (3, .int (zI 0))] rfl ?_
  refine x_loop (fun a : Int × Int × S0 => X κ (rmk 5) rc_V cd_V_settle 5 (wg 82 LT κ.2.2.1.2.2 ad a.2.2) 0 0 26 [(0, .ref (ad 3)), (1, .ref (ad (21 + r))), (2, .int (zI a.2.1)), (3, .int (zI a.1))] []) (fun a => 0 ≤ a.1 ∧ a.1 ≤ stl (σ.1 0) (σ.2.1 (21 + r)) a.2.2 ∧ a.2.1 = reps (σ.2.1 (21 + r)) (σ.1 0) - stl (σ.1 0) (σ.2.1 (21 + r)) a.2.2 ∧ SI (σ.1 0) (σ.2.1 5) (σ.2.1 6) (σ.2.1 7) (σ.2.1 (21 + r)) a.2.2 ∧ FRv σ a.2.2 ∧ Ok a.2.2) (fun a => (41 - a.1).toNat) (fun a hi26 ih26 => ?_) (0, (reps (σ.2.1 (21 + r)) (σ.1 0)), (st0 σ)) ⟨Int.le_refl _, (stl_le hn0 _ _).1, by dsimp only; rw [stl_0]; omega, si_0, frv_st0 σ, ok_st0 hs⟩
  obtain ⟨rd, op, τ⟩ := a
  dsimp only at hi26 ⊢
  obtain ⟨hx0, hx1, hop, jS, jF, jO⟩ := hi26
  have hrp0 := reps_le (σ.2.1 (21 + r)) hn0
  have hst0 := stl_le hn0 (σ.2.1 (21 + r)) τ
  have e0 : τ.1 0 = σ.1 0 := jF.1
  have e5 : τ.2.1 5 = σ.2.1 5 := jF.2.2.2.2.1 5 (by omega)
  have e6 : τ.2.1 6 = σ.2.1 6 := jF.2.2.2.2.1 6 (by omega)
  have e7 : τ.2.1 7 = σ.2.1 7 := jF.2.2.2.2.1 7 (by omega)
  have eR : τ.2.1 (21 + r) = σ.2.1 (21 + r) := jF.2.2.2.2.1 (21 + r) (by omega)
  refine x_iload_n dx_V_settle_26 rfl rfl ?_
  refine x_bipush dx_V_settle_27 (by decide) ?_
  refine x_icmp_ge (tgt := 61) dx_V_settle_29 (by decide) ⟨by omega, by omega⟩ ⟨by decide, by decide⟩ (fun h29 => ?_) (fun h29 => ?_)
  ·
    have hall : ∀ x, In (σ.1 0) x → σ.2.1 (21 + r) x = x → τ.2.1 11 x ≠ -1 := fun x hx hr9 => stl_all (by omega) hx hr9
    have hvi : ∀ x, In (σ.1 0) x → In (τ.1 3) (τ.2.1 11 (σ.2.1 (21 + r) x)) := fun x hx => by
      obtain ⟨q1, q2, -⟩ := hR x hx
      rcases jS.2.2.2.1 _ q1 q2 with q | q
      · exact absurd q (hall _ q1 q2)
      · exact q.1
    have h40 : τ.1 3 ≤ 40 := by
      have q1 := jS.2.2.2.2.2.2.1
      omega
    refine x_aload_n dx_V_settle_61 rfl rfl ?_
    refine x_aload_n dx_V_settle_62 rfl rfl ?_
    refine x_cvv1 (c_V_findLeaders jO hr (by rw [e0, e5, e6, e7]; exact hT) (by rw [e0, e5, eR]; exact hR) (by rw [e0, eR]; exact hvi) jS.2.2.2.2.2.2.2.2 h40) cf_V_61 ⟨rfl, rfl, by decide, by decide⟩ ⟨Nat.zero_le _, Nat.zero_le _⟩ (wl_get (by decide)) rfl rfl (Nat.le_of_ble_eq_true rfl) dx_V_settle_63 (fun u hp => ?_)
    rw [e0, eR] at hp
    refine x_iconst dx_V_settle_66 ?_
    exact hret _ _ _ _ ⟨frv_of_fl jF hp.1, hp.2.1, Or.inl ⟨rfl, vf_of hT hR jS hall hp⟩⟩ rfl dx_V_settle_67
  ·
    refine x_iload_n dx_V_settle_32 rfl rfl ?_
    refine x_if_le (tgt := 61) dx_V_settle_33 (by decide) ⟨by omega, by omega⟩ (fun h33 => ?_) (fun h33 => ?_)
    ·
      have hall : ∀ x, In (σ.1 0) x → σ.2.1 (21 + r) x = x → τ.2.1 11 x ≠ -1 := fun x hx hr9 => stl_all (by omega) hx hr9
      have hvi : ∀ x, In (σ.1 0) x → In (τ.1 3) (τ.2.1 11 (σ.2.1 (21 + r) x)) := fun x hx => by
        obtain ⟨q1, q2, -⟩ := hR x hx
        rcases jS.2.2.2.1 _ q1 q2 with q | q
        · exact absurd q (hall _ q1 q2)
        · exact q.1
      have h40 : τ.1 3 ≤ 40 := by
        have q1 := jS.2.2.2.2.2.2.1
        omega
      refine x_aload_n dx_V_settle_61 rfl rfl ?_
      refine x_aload_n dx_V_settle_62 rfl rfl ?_
      refine x_cvv1 (c_V_findLeaders jO hr (by rw [e0, e5, e6, e7]; exact hT) (by rw [e0, e5, eR]; exact hR) (by rw [e0, eR]; exact hvi) jS.2.2.2.2.2.2.2.2 h40) cf_V_61 ⟨rfl, rfl, by decide, by decide⟩ ⟨Nat.zero_le _, Nat.zero_le _⟩ (wl_get (by decide)) rfl rfl (Nat.le_of_ble_eq_true rfl) dx_V_settle_63 (fun u hp => ?_)
      rw [e0, eR] at hp
      refine x_iconst dx_V_settle_66 ?_
      exact hret _ _ _ _ ⟨frv_of_fl jF hp.1, hp.2.1, Or.inl ⟨rfl, vf_of hT hR jS hall hp⟩⟩ rfl dx_V_settle_67
    ·
      refine x_aload_n dx_V_settle_36 rfl rfl ?_
      refine x_aload_n dx_V_settle_37 rfl rfl ?_
      refine x_cvi1 (c_V_settleRound jO hr (by rw [e0, e5, e6, e7]; exact hT) (by rw [e0, e5, eR]; exact hR) (by rw [e0, e5, e6, e7, eR]; exact jS)) cf_V_58 ⟨rfl, rfl, by decide, by decide⟩ ⟨Nat.zero_le _, Nat.zero_le _⟩ (wl_get (by decide)) rfl rfl (Nat.le_of_ble_eq_true rfl) dx_V_settle_38 (fun z u hp => ?_)
      rw [e0, e5, e6, e7, eR] at hp
      obtain ⟨pS, pF, pO, p4, p5, p6⟩ := hp
      have hz40 := (stl_le hn0 (σ.2.1 (21 + r)) u).2
      have hz0 := (stl_le hn0 (σ.2.1 (21 + r)) τ).1
      have hrp := (reps_le (σ.2.1 (21 + r)) hn0).2
      refine x_istore dx_V_settle_41 (by decide) ?_
      refine x_iload dx_V_settle_43 rfl ?_
      refine x_if_ne (tgt := 50) dx_V_settle_45 (by decide) ⟨by omega, by omega⟩ (fun h45 => ?_) (fun h45 => ?_)
      ·
        refine x_iload_n dx_V_settle_50 rfl rfl ?_
        refine x_iload dx_V_settle_51 rfl ?_
        refine x_isub dx_V_settle_53 ?_
        refine x_istore_n dx_V_settle_54 rfl (by decide) ?_
        refine x_iinc dx_V_settle_55 rfl (by decide) ?_
        refine x_goto (tgt := 26) dx_V_settle_58 (by decide) ?_
        refine x_lv [(0, .ref (ad 3)), (1, .ref (ad (21 + r))), (2, .int (zI (op - z))), (3, .int (zI (rd + 1)))] rfl ?_
        exact ih26 ((rd + 1), (op - z), u) ⟨by dsimp only; omega, by dsimp only; omega, by dsimp only; omega, pS, jF.trans pF, pO⟩ (by dsimp only; omega)
      ·
        refine x_iconst dx_V_settle_48 ?_
        obtain ⟨rfl, q9⟩ := p6 h45
        exact hret _ _ _ _ ⟨jF.trans pF, pO, Or.inr ⟨rfl, pS, q9, stl_some hn0 (by omega)⟩⟩ rfl dx_V_settle_49
