set_option maxRecDepth 100000 in
set_option maxHeartbeats 4000000 in
theorem c_M_wish {l : Launch} {D : va_G} {ca : Nat → ClassId} {ad : Nat → Nat} {σ : S0} {s t : Int} (hs : Ok σ) (s0 : 0 ≤ s) (s1 : s < 40) (t0 : 0 ≤ t) (t1 : t < 40) : CV l mn_M_wish kw_M_wish (rmk 1) D ca [.ref (ad 0), .int (zI s), .int (zI t)] (wg 16 LM ca ad σ) (fun u => stF σ 13 (40 * s + t) (wsv (σ.2.1 13 (40 * s + t))) = u) (wg 16 LM ca ad) := by
  refine cv_in rc_M cd_M_wish 3 rfl rfl (by decide) (Nat.le_of_ble_eq_true rfl) (fun κ h1 h2 h3 hret => ?_)
  subst h1; subst h2; subst h3
  refine x_lv [(0, .ref (ad 0)), (1, .int (zI s)), (2, .int (zI t))] rfl ?_
  refine x_aload_n dx_M_wish_0 rfl rfl ?_
  refine x_get fa_M_48 dx_M_wish_1 (by decide) rfl rfl ?_
  refine x_bipush dx_M_wish_4 (by decide) ?_
  refine x_iload_n dx_M_wish_6 rfl rfl ?_
  refine x_imul dx_M_wish_7 ?_
  refine x_iload_n dx_M_wish_8 rfl rfl ?_
  refine x_iadd dx_M_wish_9 ?_
  refine x_aload_n dx_M_wish_10 rfl rfl ?_
  refine x_get fa_M_48 dx_M_wish_11 (by decide) rfl rfl ?_
  refine x_bipush dx_M_wish_14 (by decide) ?_
  refine x_iload_n dx_M_wish_16 rfl rfl ?_
  refine x_imul dx_M_wish_17 ?_
  refine x_iload_n dx_M_wish_18 rfl rfl ?_
  refine x_iadd dx_M_wish_19 ?_
  refine x_iald dx_M_wish_20 (by decide) rfl (show (0 : Int) ≤ 40 * s + t by omega) (show 40 * s + t < ((1600 : Nat) : Int) by omega) (by decide) ?_
  refine x_if_ne (tgt := 28) dx_M_wish_21 (by decide) (hs.2.1 13 _) (fun h21 => ?_) (fun h21 => ?_)
  ·
    refine x_aload_n dx_M_wish_28 rfl rfl ?_
    refine x_get fa_M_48 dx_M_wish_29 (by decide) rfl rfl ?_
    refine x_bipush dx_M_wish_32 (by decide) ?_
    refine x_iload_n dx_M_wish_34 rfl rfl ?_
    refine x_imul dx_M_wish_35 ?_
    refine x_iload_n dx_M_wish_36 rfl rfl ?_
    refine x_iadd dx_M_wish_37 ?_
    refine x_iald dx_M_wish_38 (by decide) rfl (show (0 : Int) ≤ 40 * s + t by omega) (show 40 * s + t < ((1600 : Nat) : Int) by omega) (by decide) ?_
    refine x_iast dx_M_wish_39 (by decide) rfl (show (0 : Int) ≤ 40 * s + t by omega) (show 40 * s + t < ((1600 : Nat) : Int) by omega) (by decide) ?_
    first
      | exact hret _ _ _ (by unfold wsv; rw [if_pos h21]) dx_M_wish_40
      | exact hret _ _ _ (by unfold wsv; rw [if_neg h21]) dx_M_wish_40
  ·
    refine x_iconst dx_M_wish_24 ?_
    refine x_goto (tgt := 39) dx_M_wish_25 (by decide) ?_
    refine x_iast dx_M_wish_39 (by decide) rfl (show (0 : Int) ≤ 40 * s + t by omega) (show 40 * s + t < ((1600 : Nat) : Int) by omega) (by decide) ?_
    first
      | exact hret _ _ _ (by unfold wsv; rw [if_pos h21]) dx_M_wish_40
      | exact hret _ _ _ (by unfold wsv; rw [if_neg h21]) dx_M_wish_40
set_option maxRecDepth 100000 in
set_option maxHeartbeats 4000000 in
theorem c_M_meet {l : Launch} {D : va_G} {ca : Nat → ClassId} {ad : Nat → Nat} {σ : S0} {τ : S0} {s0 t0 s t : Int} {M B : Int → Int} (h : REL τ σ) (hp : PRE τ σ) (hM : MI τ σ s0 t0 M B) (is : In (τ.1 0) s) (it : In (τ.1 0) t) (h1 : M (40 * s + t) = 1) : CI l mn_M_meet kw_M_meet (rmk 2) D ca [.ref (ad 0), .int (zI s), .int (zI t)] (wg 16 LM ca ad (W2 σ M B)) (fun z u => (z = 0 ∧ ¬ MatchOK τ (τ.2.1 11 s0) (τ.2.1 11 t0) ∧ ∃ M' B', RG M' ∧ RG B' ∧ W2 σ M' B' = u) ∨ (z = 1 ∧ ∃ M' B', MI τ σ s0 t0 M' B' ∧ cn2 M + 1 = cn2 M' ∧ W2 σ M' B' = u)) (wg 16 LM ca ad) := by
  refine ci_in rc_M cd_M_meet 6 .boolean rfl rfl (by decide) (Nat.le_of_ble_eq_true rfl) (fun κ h1 h2 h3 hret => ?_)
  subst h1; subst h2; subst h3
  refine x_lv [(0, .ref (ad 0)), (1, .int (zI s)), (2, .int (zI t))] rfl ?_
  have T := h.1.1.2.1
  have n40 := T.2.1
  obtain ⟨nv, hv, kn, alk⟩ := rel_nv h hp
  have okW : ∀ {N : Int → Int}, RG N → Ok (W2 σ N B) := fun q => ok_stR (ok_stR h.2.1 q) hM.2.2.2.2.2
  have hsh : (σ.2.1 8 s = -1 ∨ In (τ.1 0) (σ.2.1 8 s)) ∧ (σ.2.1 8 t = -1 ∨ In (τ.1 0) (σ.2.1 8 t)) := ⟨(nv_all nv hv is).2.imp (fun q => q.1) (fun q => q.1), (nv_all nv hv it).2.imp (fun q => q.1) (fun q => q.1)⟩
  refine x_aload_n dx_M_meet_0 rfl rfl ?_
  refine x_get fa_M_48 dx_M_meet_1 (by decide) rfl rfl ?_
  refine x_bipush dx_M_meet_4 (by decide) ?_
  refine x_iload_n dx_M_meet_6 rfl rfl ?_
  refine x_imul dx_M_meet_7 ?_
  refine x_iload_n dx_M_meet_8 rfl rfl ?_
  refine x_iadd dx_M_meet_9 ?_
  refine x_iconst dx_M_meet_10 ?_
  refine x_iast dx_M_meet_11 (by decide) rfl (show (0 : Int) ≤ 40 * s + t by omega) (show 40 * s + t < ((1600 : Nat) : Int) by omega) (by decide) ?_
  refine x_w (congrArg (wg 16 LM κ.2.2.1.2.2 ad) (W2_13 σ M B _ _)) ?_
  refine x_aload_n dx_M_meet_12 rfl rfl ?_
  refine x_get fa_M_31 dx_M_meet_13 (by decide) rfl rfl ?_
  refine x_iload_n dx_M_meet_16 rfl rfl ?_
  refine x_iald dx_M_meet_17 (by decide) rfl (by omega) (by omega) (by decide) ?_
  refine x_istore_n dx_M_meet_18 rfl (by decide) ?_
  refine x_aload_n dx_M_meet_19 rfl rfl ?_
  refine x_get fa_M_31 dx_M_meet_20 (by decide) rfl rfl ?_
  refine x_iload_n dx_M_meet_23 rfl rfl ?_
  refine x_iald dx_M_meet_24 (by decide) rfl (by omega) (by omega) (by decide) ?_
  refine x_istore dx_M_meet_25 (by decide) ?_
  refine x_iload_n dx_M_meet_27 rfl rfl ?_
  refine x_if_ge (tgt := 85) dx_M_meet_28 (by decide) (h.2.1.2.1 8 s) (fun h28 => ?_) (fun h28 => ?_)
  ·
    have h28 : 0 ≤ σ.2.1 8 s := h28
    have ia : In (τ.1 0) (σ.2.1 8 s) := hsh.1.resolve_left (by omega)
    have na : σ.2.1 8 s ≠ -1 := by omega
    have ra := rt_x T h.2.2.1 ia
    refine x_iload dx_M_meet_85 rfl ?_
    refine x_if_lt (tgt := 122) dx_M_meet_87 (by decide) (h.2.1.2.1 8 t) (fun h87 => ?_) (fun h87 => ?_)
    ·
      have h87 : σ.2.1 8 t < 0 := h87
      have NO := no_term h hp hM is it h1 na (Or.inl (by omega))
      refine x_iconst dx_M_meet_122 ?_
      exact hret _ _ _ _ (Or.inl ⟨rfl, NO, _, _, ui_rg hM.2.2.2.2.1 ⟨by decide, by decide⟩, hM.2.2.2.2.2, rfl⟩) rfl dx_M_meet_123
    ·
      have h87 : 0 ≤ σ.2.1 8 t := h87
      have ib : In (τ.1 0) (σ.2.1 8 t) := hsh.2.resolve_left (by omega)
      have nb : σ.2.1 8 t ≠ -1 := by omega
      have rb := rt_x T h.2.2.1 ib
      have rk := rt_k T h.2.2.1 ia ib
      refine x_aload_n dx_M_meet_90 rfl rfl ?_
      refine x_get fa_M_7 dx_M_meet_91 (by decide) rfl rfl ?_
      refine x_iload_n dx_M_meet_94 rfl rfl ?_
      refine x_iald dx_M_meet_95 (by decide) rfl (show 0 ≤ σ.2.1 8 s by omega) (show σ.2.1 8 s < ((40 : Nat) : Int) by omega) (by decide) ?_
      refine x_aload_n dx_M_meet_96 rfl rfl ?_
      refine x_get fa_M_7 dx_M_meet_97 (by decide) rfl rfl ?_
      refine x_iload dx_M_meet_100 rfl ?_
      refine x_iald dx_M_meet_102 (by decide) rfl (show 0 ≤ σ.2.1 8 t by omega) (show σ.2.1 8 t < ((40 : Nat) : Int) by omega) (by decide) ?_
      refine x_icmp_ne (tgt := 122) dx_M_meet_103 (by decide) (h.2.1.2.1 1 _) (h.2.1.2.1 1 _) (fun h103 => ?_) (fun h103 => ?_)
      ·
        have NO := no_term h hp hM is it h1 na (Or.inr (fun q => h103 (rk.mpr q).1))
        refine x_iconst dx_M_meet_122 ?_
        exact hret _ _ _ _ (Or.inl ⟨rfl, NO, _, _, ui_rg hM.2.2.2.2.1 ⟨by decide, by decide⟩, hM.2.2.2.2.2, rfl⟩) rfl dx_M_meet_123
      ·
        refine x_aload_n dx_M_meet_106 rfl rfl ?_
        refine x_get fa_M_13 dx_M_meet_107 (by decide) rfl rfl ?_
        refine x_iload_n dx_M_meet_110 rfl rfl ?_
        refine x_iald dx_M_meet_111 (by decide) rfl (show 0 ≤ σ.2.1 8 s by omega) (show σ.2.1 8 s < ((40 : Nat) : Int) by omega) (by decide) ?_
        refine x_aload_n dx_M_meet_112 rfl rfl ?_
        refine x_get fa_M_13 dx_M_meet_113 (by decide) rfl rfl ?_
        refine x_iload dx_M_meet_116 rfl ?_
        refine x_iald dx_M_meet_118 (by decide) rfl (show 0 ≤ σ.2.1 8 t by omega) (show σ.2.1 8 t < ((40 : Nat) : Int) by omega) (by decide) ?_
        refine x_icmp_eq (tgt := 124) dx_M_meet_119 (by decide) (h.2.1.2.1 2 _) (h.2.1.2.1 2 _) (fun h119 => ?_) (fun h119 => ?_)
        ·
          have ke := rk.mp ⟨h103, h119⟩
          have fe := T.fa_eq ia ib ((nv_all nv hv is).2.resolve_left (fun z => na z.1)).2.1 ke
          refine x_aload_n dx_M_meet_124 rfl rfl ?_
          refine x_get fa_M_13 dx_M_meet_125 (by decide) rfl rfl ?_
          refine x_iload_n dx_M_meet_128 rfl rfl ?_
          refine x_iald dx_M_meet_129 (by decide) rfl (show 0 ≤ σ.2.1 8 s by omega) (show σ.2.1 8 s < ((40 : Nat) : Int) by omega) (by decide) ?_
          refine x_joinW 150 1 (fun u => W2 σ (wsh (ui M (40 * s + t) 2) (τ.2.1 6 (σ.2.1 8 s)) (40 * (τ.2.1 6 (σ.2.1 8 s)) + (τ.2.1 6 (σ.2.1 8 t)))) B = u) (fun u130 hv130 => ?_) (fun jn130 => ?_)
          ·
            subst hv130
            refine x_aload_n dx_M_meet_150 rfl rfl ?_
            refine x_get fa_M_13 dx_M_meet_151 (by decide) rfl rfl ?_
            refine x_iload_n dx_M_meet_154 rfl rfl ?_
            refine x_iald dx_M_meet_155 (by decide) rfl (show 0 ≤ σ.2.1 8 s by omega) (show σ.2.1 8 s < ((40 : Nat) : Int) by omega) (by decide) ?_
            refine x_iconst dx_M_meet_156 ?_
            refine x_joinW 177 2 (fun u => W2 σ (wsh (wsh (ui M (40 * s + t) 2) (τ.2.1 6 (σ.2.1 8 s)) (40 * (τ.2.1 6 (σ.2.1 8 s)) + (τ.2.1 6 (σ.2.1 8 t)))) (τ.2.1 7 (σ.2.1 8 s)) (40 * (τ.2.1 7 (σ.2.1 8 s)) + (τ.2.1 7 (σ.2.1 8 t)))) B = u) (fun u157 hv157 => ?_) (fun jn157 => ?_)
            ·
              subst hv157
              refine x_iconst dx_M_meet_177 ?_
              exact hret _ _ _ _ (Or.inr ⟨rfl, _, _, mi_term h hp hM is it h1 na nb ke, by rw [cn2_wsh, cn2_wsh]; exact cn2_two (by omega) (by omega) h1, rfl⟩) rfl dx_M_meet_178
            ·
              refine x_icmp_le (tgt := 177) dx_M_meet_157 (by decide) (h.2.1.2.1 2 _) ⟨by decide, by decide⟩ (fun h157 => ?_) (fun h157 => ?_)
              ·
                have h157 : σ.2.1 2 (σ.2.1 8 s) ≤ 1 := h157
                have f1 : (τ.2.1 7 (σ.2.1 8 s)) = -1 := Classical.byContradiction fun q => by have := ra.2.2.1.mpr q; omega
                first
                  | exact jn157 _ (by rw [show (wsh (wsh (ui M (40 * s + t) 2) (τ.2.1 6 (σ.2.1 8 s)) (40 * (τ.2.1 6 (σ.2.1 8 s)) + (τ.2.1 6 (σ.2.1 8 t)))) (τ.2.1 7 (σ.2.1 8 s)) (40 * (τ.2.1 7 (σ.2.1 8 s)) + (τ.2.1 7 (σ.2.1 8 t)))) = (wsh (ui M (40 * s + t) 2) (τ.2.1 6 (σ.2.1 8 s)) (40 * (τ.2.1 6 (σ.2.1 8 s)) + (τ.2.1 6 (σ.2.1 8 t)))) from if_pos f1])
                  | exact jn157 _ hp9
              ·
                have f1 : (τ.2.1 7 (σ.2.1 8 s)) ≠ -1 := ra.2.2.1.mp h157
                have i1 := T.sa_in ia f1
                have j1 := T.sa_in ib (fun q => f1 (fe.2.mpr q))
                have r1 : σ.2.1 4 (σ.2.1 8 s) = (τ.2.1 7 (σ.2.1 8 s)) := ra.2.2.2.2
                have r2 : σ.2.1 4 (σ.2.1 8 t) = (τ.2.1 7 (σ.2.1 8 t)) := rb.2.2.2.2
                refine x_aload_n dx_M_meet_160 rfl rfl ?_
                refine x_aload_n dx_M_meet_161 rfl rfl ?_
                refine x_get fa_M_19 dx_M_meet_162 (by decide) rfl rfl ?_
                refine x_iload_n dx_M_meet_165 rfl rfl ?_
                refine x_iald dx_M_meet_166 (by decide) rfl (show 0 ≤ σ.2.1 8 s by omega) (show σ.2.1 8 s < ((40 : Nat) : Int) by omega) (by decide) ?_
                refine x_aload_n dx_M_meet_167 rfl rfl ?_
                refine x_get fa_M_19 dx_M_meet_168 (by decide) rfl rfl ?_
                refine x_iload dx_M_meet_171 rfl ?_
                refine x_iald dx_M_meet_173 (by decide) rfl (show 0 ≤ σ.2.1 8 t by omega) (show σ.2.1 8 t < ((40 : Nat) : Int) by omega) (by decide) ?_
                refine x_cvv2 (c_M_wish (σ := W2 σ (wsh (ui M (40 * s + t) 2) (τ.2.1 6 (σ.2.1 8 s)) (40 * (τ.2.1 6 (σ.2.1 8 s)) + (τ.2.1 6 (σ.2.1 8 t)))) B) (s := σ.2.1 4 (σ.2.1 8 s)) (t := σ.2.1 4 (σ.2.1 8 t)) (okW (wsh_rg (ui_rg hM.2.2.2.2.1 ⟨by decide, by decide⟩))) (by omega) (by omega) (by omega) (by omega)) cf_M_127 ⟨rfl, rfl, by decide, by decide⟩ ⟨Nat.zero_le _, Nat.zero_le _⟩ (wl_get (by decide)) rfl rfl (Nat.le_of_ble_eq_true rfl) dx_M_meet_174 (fun u hp2 => ?_)
                rw [W2_13, r1, r2] at hp2
                have hp9 : W2 σ (wsh (wsh (ui M (40 * s + t) 2) (τ.2.1 6 (σ.2.1 8 s)) (40 * (τ.2.1 6 (σ.2.1 8 s)) + (τ.2.1 6 (σ.2.1 8 t)))) (τ.2.1 7 (σ.2.1 8 s)) (40 * (τ.2.1 7 (σ.2.1 8 s)) + (τ.2.1 7 (σ.2.1 8 t)))) B = u := by rw [show (wsh (wsh (ui M (40 * s + t) 2) (τ.2.1 6 (σ.2.1 8 s)) (40 * (τ.2.1 6 (σ.2.1 8 s)) + (τ.2.1 6 (σ.2.1 8 t)))) (τ.2.1 7 (σ.2.1 8 s)) (40 * (τ.2.1 7 (σ.2.1 8 s)) + (τ.2.1 7 (σ.2.1 8 t)))) = ui (wsh (ui M (40 * s + t) 2) (τ.2.1 6 (σ.2.1 8 s)) (40 * (τ.2.1 6 (σ.2.1 8 s)) + (τ.2.1 6 (σ.2.1 8 t)))) (40 * (τ.2.1 7 (σ.2.1 8 s)) + (τ.2.1 7 (σ.2.1 8 t))) (wsv ((wsh (ui M (40 * s + t) 2) (τ.2.1 6 (σ.2.1 8 s)) (40 * (τ.2.1 6 (σ.2.1 8 s)) + (τ.2.1 6 (σ.2.1 8 t)))) (40 * (τ.2.1 7 (σ.2.1 8 s)) + (τ.2.1 7 (σ.2.1 8 t))))) from if_neg f1]; exact hp2
                first
                  | exact jn157 _ (by rw [show (wsh (wsh (ui M (40 * s + t) 2) (τ.2.1 6 (σ.2.1 8 s)) (40 * (τ.2.1 6 (σ.2.1 8 s)) + (τ.2.1 6 (σ.2.1 8 t)))) (τ.2.1 7 (σ.2.1 8 s)) (40 * (τ.2.1 7 (σ.2.1 8 s)) + (τ.2.1 7 (σ.2.1 8 t)))) = (wsh (ui M (40 * s + t) 2) (τ.2.1 6 (σ.2.1 8 s)) (40 * (τ.2.1 6 (σ.2.1 8 s)) + (τ.2.1 6 (σ.2.1 8 t)))) from if_pos f1])
                  | exact jn157 _ hp9
          ·
            refine x_if_le (tgt := 150) dx_M_meet_130 (by decide) (h.2.1.2.1 2 _) (fun h130 => ?_) (fun h130 => ?_)
            ·
              have h130 : σ.2.1 2 (σ.2.1 8 s) ≤ 0 := h130
              have f1 : (τ.2.1 6 (σ.2.1 8 s)) = -1 := Classical.byContradiction fun q => by have := ra.2.1.mpr q; omega
              first
                | exact jn130 _ (by unfold wsh; rw [if_pos f1])
                | exact jn130 _ hp9
            ·
              have f1 : (τ.2.1 6 (σ.2.1 8 s)) ≠ -1 := ra.2.1.mp h130
              have i1 := T.fa_in ia f1
              have j1 := T.fa_in ib (fun q => f1 (fe.1.mpr q))
              have r1 : σ.2.1 3 (σ.2.1 8 s) = (τ.2.1 6 (σ.2.1 8 s)) := ra.2.2.2.1
              have r2 : σ.2.1 3 (σ.2.1 8 t) = (τ.2.1 6 (σ.2.1 8 t)) := rb.2.2.2.1
              refine x_aload_n dx_M_meet_133 rfl rfl ?_
              refine x_aload_n dx_M_meet_134 rfl rfl ?_
              refine x_get fa_M_16 dx_M_meet_135 (by decide) rfl rfl ?_
              refine x_iload_n dx_M_meet_138 rfl rfl ?_
              refine x_iald dx_M_meet_139 (by decide) rfl (show 0 ≤ σ.2.1 8 s by omega) (show σ.2.1 8 s < ((40 : Nat) : Int) by omega) (by decide) ?_
              refine x_aload_n dx_M_meet_140 rfl rfl ?_
              refine x_get fa_M_16 dx_M_meet_141 (by decide) rfl rfl ?_
              refine x_iload dx_M_meet_144 rfl ?_
              refine x_iald dx_M_meet_146 (by decide) rfl (show 0 ≤ σ.2.1 8 t by omega) (show σ.2.1 8 t < ((40 : Nat) : Int) by omega) (by decide) ?_
              refine x_cvv2 (c_M_wish (σ := W2 σ (ui M (40 * s + t) 2) B) (s := σ.2.1 3 (σ.2.1 8 s)) (t := σ.2.1 3 (σ.2.1 8 t)) (okW (ui_rg hM.2.2.2.2.1 ⟨by decide, by decide⟩)) (by omega) (by omega) (by omega) (by omega)) cf_M_127 ⟨rfl, rfl, by decide, by decide⟩ ⟨Nat.zero_le _, Nat.zero_le _⟩ (wl_get (by decide)) rfl rfl (Nat.le_of_ble_eq_true rfl) dx_M_meet_147 (fun u hp2 => ?_)
              rw [W2_13, r1, r2] at hp2
              have hp9 : W2 σ (wsh (ui M (40 * s + t) 2) (τ.2.1 6 (σ.2.1 8 s)) (40 * (τ.2.1 6 (σ.2.1 8 s)) + (τ.2.1 6 (σ.2.1 8 t)))) B = u := by rw [show (wsh (ui M (40 * s + t) 2) (τ.2.1 6 (σ.2.1 8 s)) (40 * (τ.2.1 6 (σ.2.1 8 s)) + (τ.2.1 6 (σ.2.1 8 t)))) = ui (ui M (40 * s + t) 2) (40 * (τ.2.1 6 (σ.2.1 8 s)) + (τ.2.1 6 (σ.2.1 8 t))) (wsv ((ui M (40 * s + t) 2) (40 * (τ.2.1 6 (σ.2.1 8 s)) + (τ.2.1 6 (σ.2.1 8 t))))) from if_neg f1]; exact hp2
              first
                | exact jn130 _ (by unfold wsh; rw [if_pos f1])
                | exact jn130 _ hp9
        ·
          have NO := no_term h hp hM is it h1 na (Or.inr (fun q => h119 (rk.mpr q).2))
          refine x_iconst dx_M_meet_122 ?_
          exact hret _ _ _ _ (Or.inl ⟨rfl, NO, _, _, ui_rg hM.2.2.2.2.1 ⟨by decide, by decide⟩, hM.2.2.2.2.2, rfl⟩) rfl dx_M_meet_123
  ·
    have h28 : σ.2.1 8 s < 0 := h28
    have hv9 : σ.2.1 8 s = -1 := by omega
    obtain ⟨g1, -⟩ := nv.2.2.2.2.2.2.1 s is
    refine x_aload_n dx_M_meet_31 rfl rfl ?_
    refine x_get fa_M_28 dx_M_meet_32 (by decide) rfl rfl ?_
    refine x_iload_n dx_M_meet_35 rfl rfl ?_
    refine x_iald dx_M_meet_36 (by decide) rfl (by omega) (by omega) (by decide) ?_
    refine x_istore dx_M_meet_37 (by decide) ?_
    refine x_aload_n dx_M_meet_39 rfl rfl ?_
    refine x_get fa_M_54 dx_M_meet_40 (by decide) rfl rfl ?_
    refine x_iload dx_M_meet_43 rfl ?_
    refine x_aload_n dx_M_meet_45 rfl rfl ?_
    refine x_get fa_M_54 dx_M_meet_46 (by decide) rfl rfl ?_
    refine x_iload dx_M_meet_49 rfl ?_
    refine x_iald dx_M_meet_51 (by decide) rfl (show 0 ≤ σ.2.1 7 s by omega) (show σ.2.1 7 s < ((40 : Nat) : Int) by omega) (by decide) ?_
    refine x_if_ge (tgt := 59) dx_M_meet_52 (by decide) (hM.2.2.2.2.2 _) (fun h52 => ?_) (fun h52 => ?_)
    ·
      have h52 : 0 ≤ B (σ.2.1 7 s) := h52
      refine x_aload_n dx_M_meet_59 rfl rfl ?_
      refine x_get fa_M_54 dx_M_meet_60 (by decide) rfl rfl ?_
      refine x_iload dx_M_meet_63 rfl ?_
      refine x_iald dx_M_meet_65 (by decide) rfl (show 0 ≤ σ.2.1 7 s by omega) (show σ.2.1 7 s < ((40 : Nat) : Int) by omega) (by decide) ?_
      refine x_iast dx_M_meet_66 (by decide) rfl (show 0 ≤ σ.2.1 7 s by omega) (show σ.2.1 7 s < ((40 : Nat) : Int) by omega) (by decide) ?_
      have bI : 0 ≤ B (σ.2.1 7 s) → In (τ.1 0) (B (σ.2.1 7 s)) := fun q => ((hM.2.2.1 _ ⟨g1.1, by omega⟩).resolve_left (fun z => by omega)).1
      obtain ⟨X9, iX, hX9⟩ : ∃ X9, In (τ.1 0) X9 ∧ ((B (σ.2.1 7 s) < 0 ∧ X9 = t) ∨ (0 ≤ B (σ.2.1 7 s) ∧ X9 = B (σ.2.1 7 s))) := by
        first
          | exact ⟨t, it, Or.inl ⟨h52, rfl⟩⟩
          | exact ⟨B (σ.2.1 7 s), bI h52, Or.inr ⟨h52, rfl⟩⟩
      refine x_w (w' := wg 16 LM κ.2.2.1.2.2 ad (W2 σ (ui M (40 * s + t) 2) (ui B (σ.2.1 7 s) X9))) (congrArg (wg 16 LM κ.2.2.1.2.2 ad) ?_) ?_
      · rcases hX9 with ⟨q1, q2⟩ | ⟨q1, q2⟩
        · first
          | (rw [q2]; exact W2_15 σ _ B _ t)
          | omega
        · first
          | (rw [q2]; exact W2_15 σ _ B _ _)
          | omega
      refine x_aload_n dx_M_meet_67 rfl rfl ?_
      refine x_get fa_M_44 dx_M_meet_68 (by decide) rfl rfl ?_
      refine x_bipush dx_M_meet_71 (by decide) ?_
      refine x_aload_n dx_M_meet_73 rfl rfl ?_
      refine x_get fa_M_54 dx_M_meet_74 (by decide) rfl rfl ?_
      refine x_iload dx_M_meet_77 rfl ?_
      refine x_iald dx_M_meet_79 (by decide) rfl (show 0 ≤ σ.2.1 7 s by omega) (show σ.2.1 7 s < ((40 : Nat) : Int) by omega) (by decide) ?_
      refine x_imul dx_M_meet_80 ?_
      refine x_iload_n dx_M_meet_81 rfl rfl ?_
      refine x_iadd dx_M_meet_82 ?_
      refine x_zald dx_M_meet_83 (by decide) rfl (show (0 : Int) ≤ 40 * ui B (σ.2.1 7 s) X9 (σ.2.1 7 s) + t by rw [ui_at]; omega) (show 40 * ui B (σ.2.1 7 s) X9 (σ.2.1 7 s) + t < ((1600 : Nat) : Int) by rw [ui_at]; omega) (by decide) ?_
      have ev : σ.2.1 12 (40 * ui B (σ.2.1 7 s) X9 (σ.2.1 7 s) + t) = bz (τ.2.1 11 X9 = τ.2.1 11 t) := by rw [ui_at]; exact alk X9 t iX it
      refine x_st (show [Value.int (zI (σ.2.1 12 (40 * ui B (σ.2.1 7 s) X9 (σ.2.1 7 s) + t)))] = [Value.int (zI (bz (τ.2.1 11 X9 = τ.2.1 11 t)))] from by rw [ev]) ?_
      refine hret _ _ _ _ ?_ (nrw_bz _) dx_M_meet_84
      by_cases c : τ.2.1 11 X9 = τ.2.1 11 t
      · rw [bz_t c]
        exact Or.inr ⟨rfl, _, _, mi_var h hp hM is it h1 hv9 hX9 c, cn2_two (by omega) (by omega) h1, rfl⟩
      · rw [bz_f c]
        refine Or.inl ⟨rfl, ?_, _, _, ui_rg hM.2.2.2.2.1 ⟨by decide, by decide⟩, ui_rg hM.2.2.2.2.2 ⟨by omega, by omega⟩, rfl⟩
        rcases hX9 with ⟨q1, q2⟩ | ⟨q1, q2⟩
        · rw [q2] at c; exact absurd rfl c
        · rw [q2] at c; exact no_var h hp hM is it h1 hv9 q1 c
    ·
      have h52 : B (σ.2.1 7 s) < 0 := h52
      refine x_iload_n dx_M_meet_55 rfl rfl ?_
      refine x_goto (tgt := 66) dx_M_meet_56 (by decide) ?_
      refine x_iast dx_M_meet_66 (by decide) rfl (show 0 ≤ σ.2.1 7 s by omega) (show σ.2.1 7 s < ((40 : Nat) : Int) by omega) (by decide) ?_
      have bI : 0 ≤ B (σ.2.1 7 s) → In (τ.1 0) (B (σ.2.1 7 s)) := fun q => ((hM.2.2.1 _ ⟨g1.1, by omega⟩).resolve_left (fun z => by omega)).1
      obtain ⟨X9, iX, hX9⟩ : ∃ X9, In (τ.1 0) X9 ∧ ((B (σ.2.1 7 s) < 0 ∧ X9 = t) ∨ (0 ≤ B (σ.2.1 7 s) ∧ X9 = B (σ.2.1 7 s))) := by
        first
          | exact ⟨t, it, Or.inl ⟨h52, rfl⟩⟩
          | exact ⟨B (σ.2.1 7 s), bI h52, Or.inr ⟨h52, rfl⟩⟩
      refine x_w (w' := wg 16 LM κ.2.2.1.2.2 ad (W2 σ (ui M (40 * s + t) 2) (ui B (σ.2.1 7 s) X9))) (congrArg (wg 16 LM κ.2.2.1.2.2 ad) ?_) ?_
      · rcases hX9 with ⟨q1, q2⟩ | ⟨q1, q2⟩
        · first
          | (rw [q2]; exact W2_15 σ _ B _ t)
          | omega
        · first
          | (rw [q2]; exact W2_15 σ _ B _ _)
          | omega
      refine x_aload_n dx_M_meet_67 rfl rfl ?_
      refine x_get fa_M_44 dx_M_meet_68 (by decide) rfl rfl ?_
      refine x_bipush dx_M_meet_71 (by decide) ?_
      refine x_aload_n dx_M_meet_73 rfl rfl ?_
      refine x_get fa_M_54 dx_M_meet_74 (by decide) rfl rfl ?_
      refine x_iload dx_M_meet_77 rfl ?_
      refine x_iald dx_M_meet_79 (by decide) rfl (show 0 ≤ σ.2.1 7 s by omega) (show σ.2.1 7 s < ((40 : Nat) : Int) by omega) (by decide) ?_
      refine x_imul dx_M_meet_80 ?_
      refine x_iload_n dx_M_meet_81 rfl rfl ?_
      refine x_iadd dx_M_meet_82 ?_
      refine x_zald dx_M_meet_83 (by decide) rfl (show (0 : Int) ≤ 40 * ui B (σ.2.1 7 s) X9 (σ.2.1 7 s) + t by rw [ui_at]; omega) (show 40 * ui B (σ.2.1 7 s) X9 (σ.2.1 7 s) + t < ((1600 : Nat) : Int) by rw [ui_at]; omega) (by decide) ?_
      have ev : σ.2.1 12 (40 * ui B (σ.2.1 7 s) X9 (σ.2.1 7 s) + t) = bz (τ.2.1 11 X9 = τ.2.1 11 t) := by rw [ui_at]; exact alk X9 t iX it
      refine x_st (show [Value.int (zI (σ.2.1 12 (40 * ui B (σ.2.1 7 s) X9 (σ.2.1 7 s) + t)))] = [Value.int (zI (bz (τ.2.1 11 X9 = τ.2.1 11 t)))] from by rw [ev]) ?_
      refine hret _ _ _ _ ?_ (nrw_bz _) dx_M_meet_84
      by_cases c : τ.2.1 11 X9 = τ.2.1 11 t
      · rw [bz_t c]
        exact Or.inr ⟨rfl, _, _, mi_var h hp hM is it h1 hv9 hX9 c, cn2_two (by omega) (by omega) h1, rfl⟩
      · rw [bz_f c]
        refine Or.inl ⟨rfl, ?_, _, _, ui_rg hM.2.2.2.2.1 ⟨by decide, by decide⟩, ui_rg hM.2.2.2.2.2 ⟨by omega, by omega⟩, rfl⟩
        rcases hX9 with ⟨q1, q2⟩ | ⟨q1, q2⟩
        · rw [q2] at c; exact absurd rfl c
        · rw [q2] at c; exact no_var h hp hM is it h1 hv9 q1 c
set_option maxRecDepth 100000 in
set_option maxHeartbeats 4000000 in
theorem c_M_matches {l : Launch} {D : va_G} {ca : Nat → ClassId} {ad : Nat → Nat} {σ : S0} {τ : S0} {s t : Int} (h : REL τ σ) (hs : Rg s) (ht : Rg t) : CI l mn_M_matches kw_M_matches (rmk 6) D ca [.ref (ad 0), .int (zI s), .int (zI t)] (wg 16 LM ca ad σ) (fun z u => REL τ u ∧ (((In (τ.1 0) s ∧ In (τ.1 0) t) ∧ u.1 0 = 0 ∧ ((1 = z ∧ MatchOK τ (τ.2.1 11 s) (τ.2.1 11 t)) ∨ (0 = z ∧ ¬ MatchOK τ (τ.2.1 11 s) (τ.2.1 11 t)))) ∨ (¬ (In (τ.1 0) s ∧ In (τ.1 0) t) ∧ u.1 0 = 1))) (wg 16 LM ca ad) := by
  refine ci_in rc_M cd_M_matches 5 .boolean rfl rfl (by decide) (Nat.le_of_ble_eq_true rfl) (fun κ h1 h2 h3 hret => ?_)
  subst h1; subst h2; subst h3
  refine x_lv [(0, .ref (ad 0)), (1, .int (zI s)), (2, .int (zI t))] rfl ?_
  refine x_aload_n dx_M_matches_0 rfl rfl ?_
  refine x_iload_n dx_M_matches_1 rfl rfl ?_
  refine x_iload_n dx_M_matches_2 rfl rfl ?_
  refine x_cvi2 (c_M_lacks (s := s) (t := t) h hs ht) cf_M_124 ⟨rfl, rfl, by decide, by decide⟩ ⟨Nat.zero_le _, Nat.zero_le _⟩ (wl_get (by decide)) rfl rfl (Nat.le_of_ble_eq_true rfl) dx_M_matches_3 (fun z u hp => ?_)
  obtain ⟨h2, p2, hz⟩ := hp
  have n40 := h2.1.1.2.1.2.1
  refine x_if_eq (tgt := 11) dx_M_matches_6 (by decide) (by rcases hz with q | q <;> exact ⟨by omega, by omega⟩) (fun h6 => ?_) (fun h6 => ?_)
  ·
    obtain ⟨-, g0, is, it⟩ := hz.resolve_right (fun q => by omega)
    refine x_iconst dx_M_matches_11 ?_
    refine x_istore_n dx_M_matches_12 rfl (by decide) ?_
    refine x_w (w' := wg 16 LM κ.2.2.1.2.2 ad (stR u 13 (u.2.1 13))) (by rw [stR_self]) ?_
    refine x_lv [(0, .ref (ad 0)), (1, .int (zI s)), (2, .int (zI t)), (3, .int (zI 0))] rfl ?_
    refine x_loop (fun q : Int × (Int → Int) => X κ (rmk 6) rc_M cd_M_matches 5 (wg 16 LM κ.2.2.1.2.2 ad (stR u 13 q.2)) 0 0 13 [(0, .ref (ad 0)), (1, .int (zI s)), (2, .int (zI t)), (3, .int (zI q.1))] []) (fun q => 0 ≤ q.1 ∧ q.1 ≤ 1600 ∧ RG q.2 ∧ ∀ i, In q.1 i → q.2 i = 0) (fun q => (1600 - q.1).toNat) (fun q hi13 ih13 => ?_) (0, (u.2.1 13)) ⟨Int.le_refl _, by dsimp only; omega, h2.2.1.2.1 13, fun i q => by dsimp only at q; omega⟩
    obtain ⟨x, M0⟩ := q
    dsimp only at hi13 ⊢
    obtain ⟨x0, x1, rM, zM⟩ := hi13
    refine x_iload_n dx_M_matches_13 rfl rfl ?_
    refine x_sipush dx_M_matches_14 (by decide) ?_
    refine x_icmp_ge (tgt := 33) dx_M_matches_17 (by decide) ⟨by omega, by omega⟩ ⟨by decide, by decide⟩ (fun h17 => ?_) (fun h17 => ?_)
    ·
      refine x_iconst dx_M_matches_33 ?_
      refine x_istore_n dx_M_matches_34 rfl (by decide) ?_
      refine x_w (w' := wg 16 LM κ.2.2.1.2.2 ad (W2 u M0 (u.2.1 15))) (by unfold W2; rw [show u.2.1 15 = (stR u 13 M0).2.1 15 from rfl, stR_self]) ?_
      refine x_lv [(0, .ref (ad 0)), (1, .int (zI s)), (2, .int (zI t)), (3, .int (zI 0))] rfl ?_
      refine x_loop (fun q : Int × (Int → Int) => X κ (rmk 6) rc_M cd_M_matches 5 (wg 16 LM κ.2.2.1.2.2 ad (W2 u M0 q.2)) 0 0 35 [(0, .ref (ad 0)), (1, .int (zI s)), (2, .int (zI t)), (3, .int (zI q.1))] []) (fun q => 0 ≤ q.1 ∧ q.1 ≤ 40 ∧ RG q.2 ∧ ∀ i, In q.1 i → q.2 i = -1) (fun q => (40 - q.1).toNat) (fun q hi35 ih35 => ?_) (0, (u.2.1 15)) ⟨Int.le_refl _, by dsimp only; omega, h2.2.1.2.1 15, fun i q => by dsimp only at q; omega⟩
      obtain ⟨y, B0⟩ := q
      dsimp only at hi35 ⊢
      obtain ⟨y0, y1, rB, zB⟩ := hi35
      refine x_iload_n dx_M_matches_35 rfl rfl ?_
      refine x_bipush dx_M_matches_36 (by decide) ?_
      refine x_icmp_ge (tgt := 54) dx_M_matches_38 (by decide) ⟨by omega, by omega⟩ ⟨by decide, by decide⟩ (fun h38 => ?_) (fun h38 => ?_)
      ·
        refine x_aload_n dx_M_matches_54 rfl rfl ?_
        refine x_iload_n dx_M_matches_55 rfl rfl ?_
        refine x_iload_n dx_M_matches_56 rfl rfl ?_
        refine x_cvv2 (c_M_wish (σ := W2 u M0 B0) (s := s) (t := t) (ok_stR (ok_stR h2.2.1 rM) rB) (by omega) (by omega) (by omega) (by omega)) cf_M_127 ⟨rfl, rfl, by decide, by decide⟩ ⟨Nat.zero_le _, Nat.zero_le _⟩ (wl_get (by decide)) rfl rfl (Nat.le_of_ble_eq_true rfl) dx_M_matches_57 (fun u9 hp => ?_)
        rw [W2_13] at hp
        subst hp
        have MI0 : MI τ u s t (ui M0 (40 * s + t) (wsv (M0 (40 * s + t)))) B0 := mi_start n40 is it rM rB (fun i q => zM i ⟨q.1, by omega⟩) (fun i q => zB i ⟨q.1, by omega⟩)
        refine x_iconst dx_M_matches_60 ?_
        refine x_istore_n dx_M_matches_61 rfl (by decide) ?_
        refine x_lv [(0, .ref (ad 0)), (3, .int (zI 1))] rfl ?_
        refine x_loop (fun q : Int × (Int → Int) × (Int → Int) => X κ (rmk 6) rc_M cd_M_matches 5 (wg 16 LM κ.2.2.1.2.2 ad (W2 u q.2.1 q.2.2)) 0 0 62 [(0, .ref (ad 0)), (3, .int (zI q.1))] []) (fun q => (q.1 = 0 ∨ q.1 = 1) ∧ MI τ u s t q.2.1 q.2.2 ∧ (q.1 = 0 → ∀ i, 0 ≤ i → i < 1600 → q.2.1 i ≠ 1)) (fun q => (2 * (1600 - cn2 q.2.1) + q.1).toNat) (fun q hi62 ih62 => ?_) (1, (ui M0 (40 * s + t) (wsv (M0 (40 * s + t)))), B0) ⟨Or.inr rfl, MI0, fun q => by have q : (1 : Int) = 0 := q; omega⟩
        obtain ⟨c0, M9, B9⟩ := q
        dsimp only at hi62 ⊢
        obtain ⟨c1, mi9, no9⟩ := hi62
        have cb := cn2_le M9
        refine x_iload_n dx_M_matches_62 rfl rfl ?_
        refine x_if_eq (tgt := 120) dx_M_matches_63 (by decide) ⟨by omega, by omega⟩ (fun h63 => ?_) (fun h63 => ?_)
        ·
          refine x_iconst dx_M_matches_120 ?_
          exact hret _ _ _ _ ⟨rel_W2 h2 mi9.2.2.2.2.1 mi9.2.2.2.2.2, Or.inl ⟨⟨is, it⟩, g0, Or.inl ⟨rfl, mi_end h2 p2 mi9 is it (no9 h63)⟩⟩⟩ rfl dx_M_matches_121
        ·
          refine x_iconst dx_M_matches_66 ?_
          refine x_istore_n dx_M_matches_67 rfl (by decide) ?_
          refine x_iconst dx_M_matches_68 ?_
          refine x_istore dx_M_matches_69 (by decide) ?_
          refine x_lv [(0, .ref (ad 0)), (3, .int (zI 0)), (4, .int (zI 0))] rfl ?_
          refine x_loop (fun p : Int × Int × (Int → Int) × (Int → Int) => X κ (rmk 6) rc_M cd_M_matches 5 (wg 16 LM κ.2.2.1.2.2 ad (W2 u p.2.2.1 p.2.2.2)) 0 0 71 [(0, .ref (ad 0)), (3, .int (zI p.2.1)), (4, .int (zI p.1))] []) (fun p => 0 ≤ p.1 ∧ p.1 ≤ 1600 ∧ MI τ u s t p.2.2.1 p.2.2.2 ∧ ((p.2.1 = 0 ∧ p.2.2.1 = M9 ∧ p.2.2.2 = B9 ∧ ∀ i, 0 ≤ i → i < p.1 → M9 i ≠ 1) ∨ (p.2.1 = 1 ∧ cn2 M9 < cn2 p.2.2.1))) (fun p => (1600 - p.1).toNat) (fun p hi71 ih71 => ?_) (0, 0, M9, B9) ⟨Int.le_refl _, by dsimp only; omega, mi9, Or.inl ⟨rfl, rfl, rfl, fun i i0 i1 => by dsimp only at i1; omega⟩⟩
          obtain ⟨k, c, M, B⟩ := p
          dsimp only at hi71 ⊢
          obtain ⟨k0, k1, mi, cs⟩ := hi71
          refine x_iload dx_M_matches_71 rfl ?_
          refine x_sipush dx_M_matches_73 (by decide) ?_
          refine x_icmp_ge (tgt := 117) dx_M_matches_76 (by decide) ⟨by omega, by omega⟩ ⟨by decide, by decide⟩ (fun h76 => ?_) (fun h76 => ?_)
          ·
            refine x_goto (tgt := 62) dx_M_matches_117 (by decide) ?_
            have e : k = 1600 := Int.le_antisymm k1 h76
            refine x_lv [(0, .ref (ad 0)), (3, .int (zI c))] rfl ?_
            exact ih62 (c, M, B) ⟨by dsimp only; rcases cs with q | q <;> omega, mi, fun q i i0 i1 => by
                                                            dsimp only at q ⊢
                                                            rcases cs with ⟨-, c3, -, c4⟩ | ⟨c2, -⟩
                                                            · rw [c3]; exact c4 i i0 (by omega)
                                                            · omega⟩ (by
                                                            dsimp only
                                                            have cb2 := cn2_le M
                                                            rcases cs with ⟨c2, c3, -⟩ | ⟨c2, c3⟩
                                                            · rw [c3]; omega
                                                            · omega)
          ·
            refine x_aload_n dx_M_matches_79 rfl rfl ?_
            refine x_get fa_M_48 dx_M_matches_80 (by decide) rfl rfl ?_
            refine x_iload dx_M_matches_83 rfl ?_
            refine x_iald dx_M_matches_85 (by decide) rfl (by omega) (by omega) (by decide) ?_
            refine x_iconst dx_M_matches_86 ?_
            refine x_icmp_ne (tgt := 111) dx_M_matches_87 (by decide) (mi.2.2.2.2.1 k) ⟨by decide, by decide⟩ (fun h87 => ?_) (fun h87 => ?_)
            ·
              have h87 : M k ≠ 1 := h87
              refine x_iinc dx_M_matches_111 rfl (by decide) ?_
              refine x_goto (tgt := 71) dx_M_matches_114 (by decide) ?_
              first
                | (refine x_lv [(0, .ref (ad 0)), (3, .int (zI c)), (4, .int (zI (k + 1)))] rfl ?_; exact ih71 ((k + 1), c, M, B) ⟨by dsimp only; omega, by dsimp only; omega, mi, cs.imp (fun q => ⟨q.1, q.2.1, q.2.2.1, fun i i0 i1 => by
                                                            dsimp only at i1
                                                            by_cases e : i = k
                                                            · rw [e, ← q.2.1]; exact h87
                                                            · exact q.2.2.2 i i0 (by omega)⟩) id⟩ (by dsimp only; omega))
                | (refine x_lv [(0, .ref (ad 0)), (3, .int (zI 1)), (4, .int (zI (k + 1)))] rfl ?_; exact ih71 ((k + 1), 1, M', B') ⟨by dsimp only; omega, by dsimp only; omega, K8, Or.inr ⟨rfl, by
                                                            dsimp only
                                                            rcases cs with ⟨-, c3, -⟩ | ⟨-, c3⟩
                                                            · rw [← c3]; omega
                                                            · omega⟩⟩ (by dsimp only; omega))
            ·
              have h87 : M k = 1 := h87
              have ek : 40 * (k / 40) + k % 40 = k := by omega
              obtain ⟨ik, jk, -⟩ := mi.1 (k / 40) (k % 40) ⟨by omega, by omega⟩ ⟨by omega, by omega⟩ (by rw [ek, h87]; decide)
              refine x_aload_n dx_M_matches_90 rfl rfl ?_
              refine x_iload dx_M_matches_91 rfl ?_
              refine x_bipush dx_M_matches_93 (by decide) ?_
              refine x_idiv dx_M_matches_95 (by decide) (div40z k0 h76).1 ?_
              refine x_iload dx_M_matches_96 rfl ?_
              refine x_bipush dx_M_matches_98 (by decide) ?_
              refine x_irem dx_M_matches_100 (by decide) (div40z k0 h76).2 ?_
              refine x_cvi2 (c_M_meet (s := k / 40) (t := k % 40) h2 p2 mi ik jk (by rw [ek]; exact h87)) cf_M_130 ⟨rfl, rfl, by decide, by decide⟩ ⟨Nat.zero_le _, Nat.zero_le _⟩ (wl_get (by decide)) rfl rfl (Nat.le_of_ble_eq_true rfl) dx_M_matches_101 (fun z u9 hp => ?_)
              have H : (z = 0 ∨ z = 1) ∧ (z = 0 → ¬ MatchOK τ (τ.2.1 11 s) (τ.2.1 11 t)) ∧ ∃ M' B', RG M' ∧ RG B' ∧ W2 u M' B' = u9 ∧ (z = 1 → MI τ u s t M' B' ∧ cn2 M + 1 = cn2 M') := by
                rcases hp with ⟨q1, q2, M', B', q3, q4, q5⟩ | ⟨q1, M', B', q3, q4, q5⟩
                · exact ⟨Or.inl q1, fun _ => q2, _, _, q3, q4, q5, fun q => by omega⟩
                · exact ⟨Or.inr q1, fun q => by omega, _, _, q3.2.2.2.2.1, q3.2.2.2.2.2, q5, fun _ => ⟨q3, q4⟩⟩
              obtain ⟨z01, NO, M', B', rM', rB', rfl, K9⟩ := H
              refine x_if_ne (tgt := 109) dx_M_matches_104 (by decide) ⟨by omega, by omega⟩ (fun h104 => ?_) (fun h104 => ?_)
              ·
                obtain ⟨K8, K7⟩ := K9 (z01.resolve_left h104)
                refine x_iconst dx_M_matches_109 ?_
                refine x_istore_n dx_M_matches_110 rfl (by decide) ?_
                refine x_iinc dx_M_matches_111 rfl (by decide) ?_
                refine x_goto (tgt := 71) dx_M_matches_114 (by decide) ?_
                first
                  | (refine x_lv [(0, .ref (ad 0)), (3, .int (zI c)), (4, .int (zI (k + 1)))] rfl ?_; exact ih71 ((k + 1), c, M, B) ⟨by dsimp only; omega, by dsimp only; omega, mi, cs.imp (fun q => ⟨q.1, q.2.1, q.2.2.1, fun i i0 i1 => by
                                                            dsimp only at i1
                                                            by_cases e : i = k
                                                            · rw [e, ← q.2.1]; exact h87
                                                            · exact q.2.2.2 i i0 (by omega)⟩) id⟩ (by dsimp only; omega))
                  | (refine x_lv [(0, .ref (ad 0)), (3, .int (zI 1)), (4, .int (zI (k + 1)))] rfl ?_; exact ih71 ((k + 1), 1, M', B') ⟨by dsimp only; omega, by dsimp only; omega, K8, Or.inr ⟨rfl, by
                                                            dsimp only
                                                            rcases cs with ⟨-, c3, -⟩ | ⟨-, c3⟩
                                                            · rw [← c3]; omega
                                                            · omega⟩⟩ (by dsimp only; omega))
              ·
                refine x_iconst dx_M_matches_107 ?_
                exact hret _ _ _ _ ⟨rel_W2 h2 rM' rB', Or.inl ⟨⟨is, it⟩, g0, Or.inr ⟨rfl, NO h104⟩⟩⟩ rfl dx_M_matches_108
      ·
        refine x_aload_n dx_M_matches_41 rfl rfl ?_
        refine x_get fa_M_54 dx_M_matches_42 (by decide) rfl rfl ?_
        refine x_iload_n dx_M_matches_45 rfl rfl ?_
        refine x_iconst dx_M_matches_46 ?_
        refine x_iast dx_M_matches_47 (by decide) rfl (by omega) (by omega) (by decide) ?_
        refine x_iinc dx_M_matches_48 rfl (by decide) ?_
        refine x_goto (tgt := 35) dx_M_matches_51 (by decide) ?_
        refine x_w (congrArg (wg 16 LM κ.2.2.1.2.2 ad) (W2_15 u M0 B0 y (-1))) ?_
        refine x_lv [(0, .ref (ad 0)), (1, .int (zI s)), (2, .int (zI t)), (3, .int (zI (y + 1)))] rfl ?_
        exact ih35 ((y + 1), (ui B0 y (-1))) ⟨by dsimp only; omega, by dsimp only; omega, ui_rg rB ⟨by decide, by decide⟩, fun i q => by
                                                            dsimp only at q ⊢
                                                            by_cases c : i = y
                                                            · rw [c, ui_at]
                                                            · rw [ui_ne _ _ c]; exact zB i ⟨q.1, by omega⟩⟩ (by dsimp only; omega)
    ·
      refine x_aload_n dx_M_matches_20 rfl rfl ?_
      refine x_get fa_M_48 dx_M_matches_21 (by decide) rfl rfl ?_
      refine x_iload_n dx_M_matches_24 rfl rfl ?_
      refine x_iconst dx_M_matches_25 ?_
      refine x_iast dx_M_matches_26 (by decide) rfl (by omega) (by omega) (by decide) ?_
      refine x_iinc dx_M_matches_27 rfl (by decide) ?_
      refine x_goto (tgt := 13) dx_M_matches_30 (by decide) ?_
      refine x_w (congrArg (wg 16 LM κ.2.2.1.2.2 ad) (stF_stR u 13 M0 x 0)) ?_
      refine x_lv [(0, .ref (ad 0)), (1, .int (zI s)), (2, .int (zI t)), (3, .int (zI (x + 1)))] rfl ?_
      exact ih13 ((x + 1), (ui M0 x 0)) ⟨by dsimp only; omega, by dsimp only; omega, ui_rg rM ⟨by decide, by decide⟩, fun i q => by
                                                            dsimp only at q ⊢
                                                            by_cases c : i = x
                                                            · rw [c, ui_at]
                                                            · rw [ui_ne _ _ c]; exact zM i ⟨q.1, by omega⟩⟩ (by dsimp only; omega)
  ·
    obtain ⟨-, g0, ng⟩ := hz.resolve_left (fun q => by omega)
    refine x_iconst dx_M_matches_9 ?_
    exact hret _ _ _ _ ⟨h2, Or.inr ⟨ng, g0⟩⟩ rfl dx_M_matches_10
