set_option maxRecDepth 100000 in
set_option maxHeartbeats 4000000 in
theorem c_M_together {l : Launch} {D : va_G} {ca : Nat → ClassId} {ad : Nat → Nat} {σ : S0} {τ : S0} {s t : Int} {S : Int → Int} (h : REL τ σ) (hp : PRE τ σ) (hS : SJ τ S) (is : In (τ.1 0) s) (it : In (τ.1 0) t) : CL l mn_M_together kw_M_together (rmk 1) D ca [.ref (ad 0), .int (zI s), .int (zI t)] (wg 16 LM ca ad (stM σ 14 S)) (fun z u => (CM τ s t = z ∨ (z = 0 ∧ STK τ σ S s t)) ∧ stM σ 14 S = u) (wg 16 LM ca ad) := by
  refine cl_in rc_M cd_M_together 9 rfl rfl (by decide) (Nat.le_of_ble_eq_true rfl) (fun κ h1 h2 h3 hret => ?_)
  subst h1; subst h2; subst h3
  refine x_lv [(0, .ref (ad 0)), (1, .int (zI s)), (2, .int (zI t))] rfl ?_
  have T := h.1.1.2.1
  have n40 := T.2.1
  obtain ⟨nv, hv, kn, alk⟩ := rel_nv h hp
  have hsh : (σ.2.1 8 s = -1 ∨ In (τ.1 0) (σ.2.1 8 s)) ∧ (σ.2.1 8 t = -1 ∨ In (τ.1 0) (σ.2.1 8 t)) := ⟨(nv_all nv hv is).2.imp (fun q => q.1) (fun q => q.1), (nv_all nv hv it).2.imp (fun q => q.1) (fun q => q.1)⟩
  refine x_aload_n dx_M_together_0 rfl rfl ?_
  refine x_get fa_M_31 dx_M_together_1 (by decide) rfl rfl ?_
  refine x_iload_n dx_M_together_4 rfl rfl ?_
  refine x_iald dx_M_together_5 (by decide) rfl (by omega) (by omega) (by decide) ?_
  refine x_istore_n dx_M_together_6 rfl (by decide) ?_
  refine x_aload_n dx_M_together_7 rfl rfl ?_
  refine x_get fa_M_31 dx_M_together_8 (by decide) rfl rfl ?_
  refine x_iload_n dx_M_together_11 rfl rfl ?_
  refine x_iald dx_M_together_12 (by decide) rfl (by omega) (by omega) (by decide) ?_
  refine x_istore dx_M_together_13 (by decide) ?_
  refine x_iload_n dx_M_together_15 rfl rfl ?_
  refine x_if_lt (tgt := 65) dx_M_together_16 (by decide) (h.2.1.2.1 8 s) (fun h16 => ?_) (fun h16 => ?_)
  ·
    have h16 : σ.2.1 8 s < 0 := h16
    have C1 := cm_1 h hp is it (Or.inl (by omega))
    refine x_lconst (z := 1) dx_M_together_65 (by decide) ?_
    exact hret _ _ _ _ ⟨Or.inl C1, rfl⟩ dx_M_together_66
  ·
    have h16 : 0 ≤ σ.2.1 8 s := h16
    have ia : In (τ.1 0) (σ.2.1 8 s) := hsh.1.resolve_left (by omega)
    have na : σ.2.1 8 s ≠ -1 := by omega
    have ra := rt_x T h.2.2.1 ia
    refine x_iload dx_M_together_19 rfl ?_
    refine x_if_lt (tgt := 65) dx_M_together_21 (by decide) (h.2.1.2.1 8 t) (fun h21 => ?_) (fun h21 => ?_)
    ·
      have h21 : σ.2.1 8 t < 0 := h21
      have C1 := cm_1 h hp is it (Or.inr (Or.inl (by omega)))
      refine x_lconst (z := 1) dx_M_together_65 (by decide) ?_
      exact hret _ _ _ _ ⟨Or.inl C1, rfl⟩ dx_M_together_66
    ·
      have h21 : 0 ≤ σ.2.1 8 t := h21
      have ib : In (τ.1 0) (σ.2.1 8 t) := hsh.2.resolve_left (by omega)
      have nb : σ.2.1 8 t ≠ -1 := by omega
      have rb := rt_x T h.2.2.1 ib
      have rk := rt_k T h.2.2.1 ia ib
      refine x_aload_n dx_M_together_24 rfl rfl ?_
      refine x_get fa_M_7 dx_M_together_25 (by decide) rfl rfl ?_
      refine x_iload_n dx_M_together_28 rfl rfl ?_
      refine x_iald dx_M_together_29 (by decide) rfl (show 0 ≤ σ.2.1 8 s by omega) (show σ.2.1 8 s < ((40 : Nat) : Int) by omega) (by decide) ?_
      refine x_aload_n dx_M_together_30 rfl rfl ?_
      refine x_get fa_M_7 dx_M_together_31 (by decide) rfl rfl ?_
      refine x_iload dx_M_together_34 rfl ?_
      refine x_iald dx_M_together_36 (by decide) rfl (show 0 ≤ σ.2.1 8 t by omega) (show σ.2.1 8 t < ((40 : Nat) : Int) by omega) (by decide) ?_
      refine x_icmp_ne (tgt := 65) dx_M_together_37 (by decide) (h.2.1.2.1 1 _) (h.2.1.2.1 1 _) (fun h37 => ?_) (fun h37 => ?_)
      ·
        have C1 := cm_1 h hp is it (Or.inr (Or.inr (Or.inl (fun q => h37 (rk.mpr q).1))))
        refine x_lconst (z := 1) dx_M_together_65 (by decide) ?_
        exact hret _ _ _ _ ⟨Or.inl C1, rfl⟩ dx_M_together_66
      ·
        refine x_aload_n dx_M_together_40 rfl rfl ?_
        refine x_get fa_M_13 dx_M_together_41 (by decide) rfl rfl ?_
        refine x_iload_n dx_M_together_44 rfl rfl ?_
        refine x_iald dx_M_together_45 (by decide) rfl (show 0 ≤ σ.2.1 8 s by omega) (show σ.2.1 8 s < ((40 : Nat) : Int) by omega) (by decide) ?_
        refine x_aload_n dx_M_together_46 rfl rfl ?_
        refine x_get fa_M_13 dx_M_together_47 (by decide) rfl rfl ?_
        refine x_iload dx_M_together_50 rfl ?_
        refine x_iald dx_M_together_52 (by decide) rfl (show 0 ≤ σ.2.1 8 t by omega) (show σ.2.1 8 t < ((40 : Nat) : Int) by omega) (by decide) ?_
        refine x_icmp_ne (tgt := 65) dx_M_together_53 (by decide) (h.2.1.2.1 2 _) (h.2.1.2.1 2 _) (fun h53 => ?_) (fun h53 => ?_)
        ·
          have C1 := cm_1 h hp is it (Or.inr (Or.inr (Or.inl (fun q => h53 (rk.mpr q).2))))
          refine x_lconst (z := 1) dx_M_together_65 (by decide) ?_
          exact hret _ _ _ _ ⟨Or.inl C1, rfl⟩ dx_M_together_66
        ·
          have ke := rk.mp ⟨h37, h53⟩
          have k1 := ((nv_all nv hv is).2.resolve_left (fun z => na z.1)).2.1
          have fe := T.fa_eq ia ib k1 ke
          have m9 : σ.2.1 2 (σ.2.1 8 s) = my (τ.2.1 5 (σ.2.1 8 s)) := (h.2.2.1.2 _ ia).2.1
          have m8 : 0 ≤ σ.2.1 2 (σ.2.1 8 s) := by rw [m9]; unfold my; rw [if_neg k1]; omega
          refine x_aload_n dx_M_together_56 rfl rfl ?_
          refine x_get fa_M_13 dx_M_together_57 (by decide) rfl rfl ?_
          refine x_iload_n dx_M_together_60 rfl rfl ?_
          refine x_iald dx_M_together_61 (by decide) rfl (show 0 ≤ σ.2.1 8 s by omega) (show σ.2.1 8 s < ((40 : Nat) : Int) by omega) (by decide) ?_
          refine x_if_ne (tgt := 67) dx_M_together_62 (by decide) (h.2.1.2.1 2 _) (fun h62 => ?_) (fun h62 => ?_)
          ·
            have h62 : σ.2.1 2 (σ.2.1 8 s) ≠ 0 := h62
            have f1 : (τ.2.1 6 (σ.2.1 8 s)) ≠ -1 := ra.2.1.mp (by omega)
            have i1 := T.fa_in ia f1
            have j1 := T.fa_in ib (fun q => f1 (fe.1.mpr q))
            have r1 : σ.2.1 3 (σ.2.1 8 s) = (τ.2.1 6 (σ.2.1 8 s)) := ra.2.2.2.1
            have r2 : σ.2.1 3 (σ.2.1 8 t) = (τ.2.1 6 (σ.2.1 8 t)) := rb.2.2.2.1
            have r3 : σ.2.1 4 (σ.2.1 8 s) = (τ.2.1 7 (σ.2.1 8 s)) := ra.2.2.2.2
            have r4 : σ.2.1 4 (σ.2.1 8 t) = (τ.2.1 7 (σ.2.1 8 t)) := rb.2.2.2.2
            have C2 := cm_2 h hp is it na nb ke f1
            refine x_aload_n dx_M_together_67 rfl rfl ?_
            refine x_get fa_M_51 dx_M_together_68 (by decide) rfl rfl ?_
            refine x_bipush dx_M_together_71 (by decide) ?_
            refine x_aload_n dx_M_together_73 rfl rfl ?_
            refine x_get fa_M_16 dx_M_together_74 (by decide) rfl rfl ?_
            refine x_iload_n dx_M_together_77 rfl rfl ?_
            refine x_iald dx_M_together_78 (by decide) rfl (show 0 ≤ σ.2.1 8 s by omega) (show σ.2.1 8 s < ((40 : Nat) : Int) by omega) (by decide) ?_
            refine x_imul dx_M_together_79 ?_
            refine x_aload_n dx_M_together_80 rfl rfl ?_
            refine x_get fa_M_16 dx_M_together_81 (by decide) rfl rfl ?_
            refine x_iload dx_M_together_84 rfl ?_
            refine x_iald dx_M_together_86 (by decide) rfl (show 0 ≤ σ.2.1 8 t by omega) (show σ.2.1 8 t < ((40 : Nat) : Int) by omega) (by decide) ?_
            refine x_iadd dx_M_together_87 ?_
            refine x_lald dx_M_together_88 (by decide) rfl (show (0 : Int) ≤ 40 * σ.2.1 3 (σ.2.1 8 s) + σ.2.1 3 (σ.2.1 8 t) by omega) (show 40 * σ.2.1 3 (σ.2.1 8 s) + σ.2.1 3 (σ.2.1 8 t) < ((1600 : Nat) : Int) by omega) (by decide) ?_
            refine x_lstore dx_M_together_89 (by decide) ?_
            refine x_aload_n dx_M_together_91 rfl rfl ?_
            refine x_get fa_M_13 dx_M_together_92 (by decide) rfl rfl ?_
            refine x_iload_n dx_M_together_95 rfl rfl ?_
            refine x_iald dx_M_together_96 (by decide) rfl (show 0 ≤ σ.2.1 8 s by omega) (show σ.2.1 8 s < ((40 : Nat) : Int) by omega) (by decide) ?_
            refine x_iconst dx_M_together_97 ?_
            refine x_ternL 127 2 (fun v => v = (if (τ.2.1 7 (σ.2.1 8 s)) = -1 then 0 else S (40 * (τ.2.1 7 (σ.2.1 8 s)) + (τ.2.1 7 (σ.2.1 8 t))))) (fun v98 hv98 => ?_) (fun jn98 => ?_)
            ·
              have y9r : RgL v98 := by
                rw [hv98]
                by_cases c : (τ.2.1 7 (σ.2.1 8 s)) = -1
                · rw [if_pos c]; exact RgL_0
                · rw [if_neg c]; exact hS.2 _
              refine x_lstore dx_M_together_127 (by decide) ?_
              refine x_lload dx_M_together_129 rfl ?_
              refine x_lconst (z := 0) dx_M_together_131 (by decide) ?_
              refine x_lcmp dx_M_together_132 (hS.2 _) RgL_0 ?_
              refine x_if_eq (tgt := 153) dx_M_together_133 (by decide) (zc_rg _ _) (fun h133 => ?_) (fun h133 => ?_)
              ·
                have e133 : S (40 * (τ.2.1 6 (σ.2.1 8 s)) + (τ.2.1 6 (σ.2.1 8 t))) = 0 := by have q := zc_eq0 h133; rw [← r1, ← r2]; exact q
                refine x_lconst (z := 0) dx_M_together_153 (by decide) ?_
                refine x_goto (tgt := 164) dx_M_together_154 (by decide) ?_
                first
                  | exact hret _ _ _ _ ⟨Or.inl (by rw [K9, ← r1, ← r2]; rfl), rfl⟩ dx_M_together_164
                  | exact hret _ _ _ _ ⟨Or.inr ⟨rfl, K8⟩, rfl⟩ dx_M_together_164
                  | exact hret _ _ _ _ ⟨Or.inr ⟨rfl, na, nb, ke, Or.inl ⟨f1, e133⟩⟩, rfl⟩ dx_M_together_164
              ·
                have e133 : S (40 * (τ.2.1 6 (σ.2.1 8 s)) + (τ.2.1 6 (σ.2.1 8 t))) ≠ 0 := by have q := zc_ne0 h133; rw [← r1, ← r2]; exact q
                refine x_aload_n dx_M_together_136 rfl rfl ?_
                refine x_get fa_M_13 dx_M_together_137 (by decide) rfl rfl ?_
                refine x_iload_n dx_M_together_140 rfl rfl ?_
                refine x_iald dx_M_together_141 (by decide) rfl (show 0 ≤ σ.2.1 8 s by omega) (show σ.2.1 8 s < ((40 : Nat) : Int) by omega) (by decide) ?_
                refine x_iconst dx_M_together_142 ?_
                refine x_icmp_le (tgt := 157) dx_M_together_143 (by decide) (h.2.1.2.1 2 _) ⟨by decide, by decide⟩ (fun h143 => ?_) (fun h143 => ?_)
                ·
                  have h143 : σ.2.1 2 (σ.2.1 8 s) ≤ 1 := h143
                  have f2 : (τ.2.1 7 (σ.2.1 8 s)) = -1 := Classical.byContradiction fun q => by have := ra.2.2.1.mpr q; omega
                  have K9 : CM τ s t = 1 + S (40 * (τ.2.1 6 (σ.2.1 8 s)) + (τ.2.1 6 (σ.2.1 8 t))) + v98 := by
                    rw [C2, hv98, if_pos f2, if_pos f2, (hS.1 _ _ i1 j1).resolve_left e133]
                  refine x_lconst (z := 1) dx_M_together_157 (by decide) ?_
                  refine x_lload dx_M_together_158 rfl ?_
                  refine x_ladd dx_M_together_160 ?_
                  refine x_lload dx_M_together_161 rfl ?_
                  refine x_ladd dx_M_together_163 ?_
                  first
                    | exact hret _ _ _ _ ⟨Or.inl (by rw [K9, ← r1, ← r2]; rfl), rfl⟩ dx_M_together_164
                    | exact hret _ _ _ _ ⟨Or.inr ⟨rfl, K8⟩, rfl⟩ dx_M_together_164
                    | exact hret _ _ _ _ ⟨Or.inr ⟨rfl, na, nb, ke, Or.inl ⟨f1, e133⟩⟩, rfl⟩ dx_M_together_164
                ·
                  have h143 : 1 < σ.2.1 2 (σ.2.1 8 s) := h143
                  have f2 : (τ.2.1 7 (σ.2.1 8 s)) ≠ -1 := ra.2.2.1.mp h143
                  have i2 := T.sa_in ia f2
                  have j2 := T.sa_in ib (fun q => f2 (fe.2.mpr q))
                  have e98 : v98 = S (40 * (τ.2.1 7 (σ.2.1 8 s)) + (τ.2.1 7 (σ.2.1 8 t))) := hv98.trans (if_neg f2)
                  refine x_lload dx_M_together_146 rfl ?_
                  refine x_lconst (z := 0) dx_M_together_148 (by decide) ?_
                  refine x_lcmp dx_M_together_149 y9r RgL_0 ?_
                  refine x_if_ne (tgt := 157) dx_M_together_150 (by decide) (zc_rg _ _) (fun h150 => ?_) (fun h150 => ?_)
                  ·
                    have e150 := zc_ne0 h150
                    have K9 : CM τ s t = 1 + S (40 * (τ.2.1 6 (σ.2.1 8 s)) + (τ.2.1 6 (σ.2.1 8 t))) + v98 := by
                      rw [e98] at e150
                      rw [C2, if_neg f2, (hS.1 _ _ i1 j1).resolve_left e133, e98, (hS.1 _ _ i2 j2).resolve_left e150]
                    refine x_lconst (z := 1) dx_M_together_157 (by decide) ?_
                    refine x_lload dx_M_together_158 rfl ?_
                    refine x_ladd dx_M_together_160 ?_
                    refine x_lload dx_M_together_161 rfl ?_
                    refine x_ladd dx_M_together_163 ?_
                    first
                      | exact hret _ _ _ _ ⟨Or.inl (by rw [K9, ← r1, ← r2]; rfl), rfl⟩ dx_M_together_164
                      | exact hret _ _ _ _ ⟨Or.inr ⟨rfl, K8⟩, rfl⟩ dx_M_together_164
                      | exact hret _ _ _ _ ⟨Or.inr ⟨rfl, na, nb, ke, Or.inl ⟨f1, e133⟩⟩, rfl⟩ dx_M_together_164
                  ·
                    have e150 := zc_eq0 h150
                    have K8 : STK τ σ S s t := ⟨na, nb, ke, Or.inr ⟨f2, by rw [← e98]; exact e150⟩⟩
                    refine x_lconst (z := 0) dx_M_together_153 (by decide) ?_
                    refine x_goto (tgt := 164) dx_M_together_154 (by decide) ?_
                    first
                      | exact hret _ _ _ _ ⟨Or.inl (by rw [K9, ← r1, ← r2]; rfl), rfl⟩ dx_M_together_164
                      | exact hret _ _ _ _ ⟨Or.inr ⟨rfl, K8⟩, rfl⟩ dx_M_together_164
                      | exact hret _ _ _ _ ⟨Or.inr ⟨rfl, na, nb, ke, Or.inl ⟨f1, e133⟩⟩, rfl⟩ dx_M_together_164
            ·
              refine x_icmp_ge (tgt := 105) dx_M_together_98 (by decide) (h.2.1.2.1 2 _) ⟨by decide, by decide⟩ (fun h98 => ?_) (fun h98 => ?_)
              ·
                have h98 : 2 ≤ σ.2.1 2 (σ.2.1 8 s) := h98
                have f2 : (τ.2.1 7 (σ.2.1 8 s)) ≠ -1 := ra.2.2.1.mp (by omega)
                have i2 := T.sa_in ia f2
                have j2 := T.sa_in ib (fun q => f2 (fe.2.mpr q))
                refine x_aload_n dx_M_together_105 rfl rfl ?_
                refine x_get fa_M_51 dx_M_together_106 (by decide) rfl rfl ?_
                refine x_bipush dx_M_together_109 (by decide) ?_
                refine x_aload_n dx_M_together_111 rfl rfl ?_
                refine x_get fa_M_19 dx_M_together_112 (by decide) rfl rfl ?_
                refine x_iload_n dx_M_together_115 rfl rfl ?_
                refine x_iald dx_M_together_116 (by decide) rfl (show 0 ≤ σ.2.1 8 s by omega) (show σ.2.1 8 s < ((40 : Nat) : Int) by omega) (by decide) ?_
                refine x_imul dx_M_together_117 ?_
                refine x_aload_n dx_M_together_118 rfl rfl ?_
                refine x_get fa_M_19 dx_M_together_119 (by decide) rfl rfl ?_
                refine x_iload dx_M_together_122 rfl ?_
                refine x_iald dx_M_together_124 (by decide) rfl (show 0 ≤ σ.2.1 8 t by omega) (show σ.2.1 8 t < ((40 : Nat) : Int) by omega) (by decide) ?_
                refine x_iadd dx_M_together_125 ?_
                refine x_lald dx_M_together_126 (by decide) rfl (show (0 : Int) ≤ 40 * σ.2.1 4 (σ.2.1 8 s) + σ.2.1 4 (σ.2.1 8 t) by omega) (show 40 * σ.2.1 4 (σ.2.1 8 s) + σ.2.1 4 (σ.2.1 8 t) < ((1600 : Nat) : Int) by omega) (by decide) ?_
                first
                  | exact jn98 _ (if_pos f2).symm
                  | exact jn98 _ (by rw [if_neg f2, ← r3, ← r4]; rfl)
              ·
                have h98 : σ.2.1 2 (σ.2.1 8 s) < 2 := h98
                have f2 : (τ.2.1 7 (σ.2.1 8 s)) = -1 := Classical.byContradiction fun q => by have := ra.2.2.1.mpr q; omega
                refine x_lconst (z := 0) dx_M_together_101 (by decide) ?_
                refine x_goto (tgt := 127) dx_M_together_102 (by decide) ?_
                first
                  | exact jn98 _ (if_pos f2).symm
                  | exact jn98 _ (by rw [if_neg f2, ← r3, ← r4]; rfl)
          ·
            have h62 : σ.2.1 2 (σ.2.1 8 s) = 0 := h62
            have C1 := cm_1 h hp is it (Or.inr (Or.inr (Or.inr (Classical.byContradiction fun q => by have := ra.2.1.mpr q; omega))))
            refine x_lconst (z := 1) dx_M_together_65 (by decide) ?_
            exact hret _ _ _ _ ⟨Or.inl C1, rfl⟩ dx_M_together_66
set_option maxRecDepth 100000 in
set_option maxHeartbeats 4000000 in
theorem c_M_common {l : Launch} {D : va_G} {ca : Nat → ClassId} {ad : Nat → Nat} {σ : S0} {τ : S0} {s t : Int} (h : REL τ σ) (hs : Rg s) (ht : Rg t) : CL l mn_M_common kw_M_common (rmk 6) D ca [.ref (ad 0), .int (zI s), .int (zI t)] (wg 16 LM ca ad σ) (PQ τ (In (τ.1 0) s ∧ In (τ.1 0) t) (CM τ s t)) (wg 16 LM ca ad) := by
  refine cl_in rc_M cd_M_common 5 rfl rfl (by decide) (Nat.le_of_ble_eq_true rfl) (fun κ h1 h2 h3 hret => ?_)
  subst h1; subst h2; subst h3
  refine x_lv [(0, .ref (ad 0)), (1, .int (zI s)), (2, .int (zI t))] rfl ?_
  refine x_aload_n dx_M_common_0 rfl rfl ?_
  refine x_iload_n dx_M_common_1 rfl rfl ?_
  refine x_iload_n dx_M_common_2 rfl rfl ?_
  refine x_cvi2 (c_M_lacks (s := s) (t := t) h hs ht) cf_M_124 ⟨rfl, rfl, by decide, by decide⟩ ⟨Nat.zero_le _, Nat.zero_le _⟩ (wl_get (by decide)) rfl rfl (Nat.le_of_ble_eq_true rfl) dx_M_common_3 (fun z u hp => ?_)
  obtain ⟨h2, p2, hz⟩ := hp
  have n40 := h2.1.1.2.1.2.1
  refine x_if_eq (tgt := 11) dx_M_common_6 (by decide) (by rcases hz with q | q <;> exact ⟨by omega, by omega⟩) (fun h6 => ?_) (fun h6 => ?_)
  ·
    obtain ⟨-, g0, is, it⟩ := hz.resolve_right (fun q => by omega)
    have e2 : u.1 2 = τ.1 0 := h2.2.2.1.1
    have T0 := h2.1.1.2.1.1
    refine x_iconst dx_M_common_11 ?_
    refine x_istore_n dx_M_common_12 rfl (by decide) ?_
    refine x_w (w' := wg 16 LM κ.2.2.1.2.2 ad (stM u 14 (u.2.2 14))) (by rw [stM_self]) ?_
    refine x_lv [(0, .ref (ad 0)), (1, .int (zI s)), (2, .int (zI t)), (3, .int (zI 0))] rfl ?_
    refine x_loop (fun q : Int × (Int → Int) => X κ (rmk 6) rc_M cd_M_common 5 (wg 16 LM κ.2.2.1.2.2 ad (stM u 14 q.2)) 0 0 13 [(0, .ref (ad 0)), (1, .int (zI s)), (2, .int (zI t)), (3, .int (zI q.1))] []) (fun q => 0 ≤ q.1 ∧ q.1 ≤ 1600 ∧ (∀ i, RgL (q.2 i)) ∧ ∀ i, In q.1 i → q.2 i = 0) (fun q => (1600 - q.1).toNat) (fun q hi13 ih13 => ?_) (0, (u.2.2 14)) ⟨Int.le_refl _, by dsimp only; omega, fun i => h2.2.1.2.2 14 i (by decide), fun i q => by dsimp only at q; omega⟩
    obtain ⟨x, S0⟩ := q
    dsimp only at hi13 ⊢
    obtain ⟨x0, x1, rS, zS⟩ := hi13
    refine x_iload_n dx_M_common_13 rfl rfl ?_
    refine x_sipush dx_M_common_14 (by decide) ?_
    refine x_icmp_ge (tgt := 33) dx_M_common_17 (by decide) ⟨by omega, by omega⟩ ⟨by decide, by decide⟩ (fun h17 => ?_) (fun h17 => ?_)
    ·
      refine x_lv [(0, .ref (ad 0)), (1, .int (zI s)), (2, .int (zI t))] rfl ?_
      refine x_loop (fun S1 : Int → Int => X κ (rmk 6) rc_M cd_M_common 5 (wg 16 LM κ.2.2.1.2.2 ad (stM u 14 S1)) 0 0 33 [(0, .ref (ad 0)), (1, .int (zI s)), (2, .int (zI t))] []) (fun S1 => SJ τ S1) (fun S1 => (1600 - csn S1).toNat) (fun S1 hi33 ih33 => ?_) S0 ⟨fun a b ha hb => Or.inl (zS _ ⟨by omega, by omega⟩), rS⟩
      have sj := hi33
      have cb := csn_le S1
      refine x_aload_n dx_M_common_33 rfl rfl ?_
      refine x_get fa_M_51 dx_M_common_34 (by decide) rfl rfl ?_
      refine x_bipush dx_M_common_37 (by decide) ?_
      refine x_iload_n dx_M_common_39 rfl rfl ?_
      refine x_imul dx_M_common_40 ?_
      refine x_iload_n dx_M_common_41 rfl rfl ?_
      refine x_iadd dx_M_common_42 ?_
      refine x_lald dx_M_common_43 (by decide) rfl (show (0 : Int) ≤ 40 * s + t by omega) (show 40 * s + t < ((1600 : Nat) : Int) by omega) (by decide) ?_
      refine x_lconst (z := 0) dx_M_common_44 (by decide) ?_
      refine x_lcmp dx_M_common_45 (sj.2 _) RgL_0 ?_
      refine x_if_ne (tgt := 137) dx_M_common_46 (by decide) (zc_rg _ _) (fun h46 => ?_) (fun h46 => ?_)
      ·
        have h46 : S1 (40 * s + t) ≠ 0 := zc_ne0 h46
        refine x_aload_n dx_M_common_137 rfl rfl ?_
        refine x_get fa_M_51 dx_M_common_138 (by decide) rfl rfl ?_
        refine x_bipush dx_M_common_141 (by decide) ?_
        refine x_iload_n dx_M_common_143 rfl rfl ?_
        refine x_imul dx_M_common_144 ?_
        refine x_iload_n dx_M_common_145 rfl rfl ?_
        refine x_iadd dx_M_common_146 ?_
        refine x_lald dx_M_common_147 (by decide) rfl (show (0 : Int) ≤ 40 * s + t by omega) (show 40 * s + t < ((1600 : Nat) : Int) by omega) (by decide) ?_
        exact hret _ _ _ _ ⟨rel_M14 h2 sj.2, Or.inl ⟨⟨is, it⟩, g0, ((sj.1 s t is it).resolve_left h46).symm⟩⟩ dx_M_common_148
      ·
        have h46 : S1 (40 * s + t) = 0 := zc_eq0 h46
        refine x_iconst dx_M_common_49 ?_
        refine x_istore_n dx_M_common_50 rfl (by decide) ?_
        refine x_lv [(0, .ref (ad 0)), (1, .int (zI s)), (2, .int (zI t)), (3, .int (zI 0))] rfl ?_
        refine x_loop (fun q : Int × (Int → Int) => X κ (rmk 6) rc_M cd_M_common 5 (wg 16 LM κ.2.2.1.2.2 ad (stM u 14 q.2)) 0 0 51 [(0, .ref (ad 0)), (1, .int (zI s)), (2, .int (zI t)), (3, .int (zI q.1))] []) (fun q => 0 ≤ q.1 ∧ q.1 ≤ τ.1 0 ∧ CR9 τ u S1 q.2 q.1 0) (fun q => (τ.1 0 - q.1).toNat) (fun q hi51 ih51 => ?_) (0, S1) ⟨Int.le_refl _, T0, sj, Or.inr ⟨rfl, fun a b ha hb ho => by dsimp only at ho; omega⟩⟩
        obtain ⟨x, S0⟩ := q
        dsimp only at hi51 ⊢
        obtain ⟨x0, x1, cr0⟩ := hi51
        refine x_iload_n dx_M_common_51 rfl rfl ?_
        refine x_aload_n dx_M_common_52 rfl rfl ?_
        refine x_get fa_M_61 dx_M_common_53 (by decide) rfl rfl ?_
        refine x_icmp_ge (tgt := 134) dx_M_common_56 (by decide) ⟨by omega, by omega⟩ (h2.2.1.1 2) (fun h56 => ?_) (fun h56 => ?_)
        ·
          have h56 : u.1 2 ≤ x := h56
          rw [e2] at h56
          refine x_goto (tgt := 33) dx_M_common_134 (by decide) ?_
          have e : x = τ.1 0 := Int.le_antisymm x1 h56
          have pr : csn S1 < csn S0 := by
            rcases cr0.2 with q | ⟨q1, q2⟩
            · exact q
            · exact absurd h46 (stk_all h2 p2 (fun a b ha hb => q2 a b ha hb (by omega)) _ s t is it (Nat.lt_succ_self _))
          have cb2 := csn_le S0
          refine x_lv [(0, .ref (ad 0)), (1, .int (zI s)), (2, .int (zI t))] rfl ?_
          exact ih33 S0 cr0.1 (by omega)
        ·
          have h56 : x < u.1 2 := h56
          rw [e2] at h56
          have ix : In (τ.1 0) x := ⟨x0, h56⟩
          refine x_iconst dx_M_common_59 ?_
          refine x_istore dx_M_common_60 (by decide) ?_
          refine x_lv [(0, .ref (ad 0)), (1, .int (zI s)), (2, .int (zI t)), (3, .int (zI x)), (4, .int (zI 0))] rfl ?_
          refine x_loop (fun p : Int × (Int → Int) => X κ (rmk 6) rc_M cd_M_common 5 (wg 16 LM κ.2.2.1.2.2 ad (stM u 14 p.2)) 0 0 62 [(0, .ref (ad 0)), (1, .int (zI s)), (2, .int (zI t)), (3, .int (zI x)), (4, .int (zI p.1))] []) (fun p => 0 ≤ p.1 ∧ p.1 ≤ τ.1 0 ∧ CR9 τ u S1 p.2 x p.1) (fun p => (τ.1 0 - p.1).toNat) (fun p hi62 ih62 => ?_) (0, S0) ⟨Int.le_refl _, T0, cr0⟩
          obtain ⟨y, S⟩ := p
          dsimp only at hi62 ⊢
          obtain ⟨y0, y1, cr⟩ := hi62
          refine x_iload dx_M_common_62 rfl ?_
          refine x_aload_n dx_M_common_64 rfl rfl ?_
          refine x_get fa_M_61 dx_M_common_65 (by decide) rfl rfl ?_
          refine x_icmp_ge (tgt := 128) dx_M_common_68 (by decide) ⟨by omega, by omega⟩ (h2.2.1.1 2) (fun h68 => ?_) (fun h68 => ?_)
          ·
            have h68 : u.1 2 ≤ y := h68
            rw [e2] at h68
            refine x_iinc dx_M_common_128 rfl (by decide) ?_
            refine x_goto (tgt := 51) dx_M_common_131 (by decide) ?_
            have e : y = τ.1 0 := Int.le_antisymm y1 h68
            refine x_lv [(0, .ref (ad 0)), (1, .int (zI s)), (2, .int (zI t)), (3, .int (zI (x + 1)))] rfl ?_
            exact ih51 ((x + 1), S) ⟨by dsimp only; omega, by dsimp only; omega, cr9_row (by have w := cr; rw [e] at w; exact w)⟩ (by dsimp only; omega)
          ·
            have h68 : y < u.1 2 := h68
            rw [e2] at h68
            have iy : In (τ.1 0) y := ⟨y0, h68⟩
            refine x_aload_n dx_M_common_71 rfl rfl ?_
            refine x_get fa_M_51 dx_M_common_72 (by decide) rfl rfl ?_
            refine x_bipush dx_M_common_75 (by decide) ?_
            refine x_iload_n dx_M_common_77 rfl rfl ?_
            refine x_imul dx_M_common_78 ?_
            refine x_iload dx_M_common_79 rfl ?_
            refine x_iadd dx_M_common_81 ?_
            refine x_aload_n dx_M_common_82 rfl rfl ?_
            refine x_get fa_M_51 dx_M_common_83 (by decide) rfl rfl ?_
            refine x_bipush dx_M_common_86 (by decide) ?_
            refine x_iload_n dx_M_common_88 rfl rfl ?_
            refine x_imul dx_M_common_89 ?_
            refine x_iload dx_M_common_90 rfl ?_
            refine x_iadd dx_M_common_92 ?_
            refine x_lald dx_M_common_93 (by decide) rfl (show (0 : Int) ≤ 40 * x + y by omega) (show 40 * x + y < ((1600 : Nat) : Int) by omega) (by decide) ?_
            refine x_lconst (z := 0) dx_M_common_94 (by decide) ?_
            refine x_lcmp dx_M_common_95 (cr.1.2 _) RgL_0 ?_
            refine x_if_ne (tgt := 109) dx_M_common_96 (by decide) (zc_rg _ _) (fun h96 => ?_) (fun h96 => ?_)
            ·
              have h96 : S (40 * x + y) ≠ 0 := zc_ne0 h96
              have K9 : CR9 τ u S1 (ui S (40 * x + y) (S (40 * x + y))) x (y + 1) := by rw [ui_self]; exact cr9_old cr h96
              refine x_aload_n dx_M_common_109 rfl rfl ?_
              refine x_get fa_M_51 dx_M_common_110 (by decide) rfl rfl ?_
              refine x_bipush dx_M_common_113 (by decide) ?_
              refine x_iload_n dx_M_common_115 rfl rfl ?_
              refine x_imul dx_M_common_116 ?_
              refine x_iload dx_M_common_117 rfl ?_
              refine x_iadd dx_M_common_119 ?_
              refine x_lald dx_M_common_120 (by decide) rfl (show (0 : Int) ≤ 40 * x + y by omega) (show 40 * x + y < ((1600 : Nat) : Int) by omega) (by decide) ?_
              refine x_last dx_M_common_121 (by decide) rfl (show (0 : Int) ≤ 40 * x + y by omega) (show 40 * x + y < ((1600 : Nat) : Int) by omega) (by decide) ?_
              refine x_iinc dx_M_common_122 rfl (by decide) ?_
              refine x_goto (tgt := 62) dx_M_common_125 (by decide) ?_
              first
                | refine x_w (congrArg (wg 16 LM κ.2.2.1.2.2 ad) (stL_stM u 14 S (40 * x + y) z9)) ?_
                | refine x_w (congrArg (wg 16 LM κ.2.2.1.2.2 ad) (stL_stM u 14 S (40 * x + y) _)) ?_
              refine x_lv [(0, .ref (ad 0)), (1, .int (zI s)), (2, .int (zI t)), (3, .int (zI x)), (4, .int (zI (y + 1)))] rfl ?_
              exact ih62 ((y + 1), _) ⟨by dsimp only; omega, by dsimp only; omega, K9⟩ (by dsimp only; omega)
            ·
              have h96 : S (40 * x + y) = 0 := zc_eq0 h96
              refine x_aload_n dx_M_common_99 rfl rfl ?_
              refine x_iload_n dx_M_common_100 rfl rfl ?_
              refine x_iload dx_M_common_101 rfl ?_
              refine x_cvl2 (c_M_together (S := S) h2 p2 cr.1 ix iy) cf_M_133 ⟨rfl, rfl, by decide, by decide⟩ ⟨Nat.zero_le _, Nat.zero_le _⟩ (wl_get (by decide)) rfl rfl (Nat.le_of_ble_eq_true rfl) dx_M_common_103 (fun z u9 hp => ?_)
              obtain ⟨hz9, rfl⟩ := hp
              have K9 := cr9_new n40 ix iy cr h96 (cm_b h2 p2 ix iy) hz9
              refine x_goto (tgt := 121) dx_M_common_106 (by decide) ?_
              refine x_last dx_M_common_121 (by decide) rfl (show (0 : Int) ≤ 40 * x + y by omega) (show 40 * x + y < ((1600 : Nat) : Int) by omega) (by decide) ?_
              refine x_iinc dx_M_common_122 rfl (by decide) ?_
              refine x_goto (tgt := 62) dx_M_common_125 (by decide) ?_
              first
                | refine x_w (congrArg (wg 16 LM κ.2.2.1.2.2 ad) (stL_stM u 14 S (40 * x + y) z9)) ?_
                | refine x_w (congrArg (wg 16 LM κ.2.2.1.2.2 ad) (stL_stM u 14 S (40 * x + y) _)) ?_
              refine x_lv [(0, .ref (ad 0)), (1, .int (zI s)), (2, .int (zI t)), (3, .int (zI x)), (4, .int (zI (y + 1)))] rfl ?_
              exact ih62 ((y + 1), _) ⟨by dsimp only; omega, by dsimp only; omega, K9⟩ (by dsimp only; omega)
    ·
      refine x_aload_n dx_M_common_20 rfl rfl ?_
      refine x_get fa_M_51 dx_M_common_21 (by decide) rfl rfl ?_
      refine x_iload_n dx_M_common_24 rfl rfl ?_
      refine x_lconst (z := 0) dx_M_common_25 (by decide) ?_
      refine x_last dx_M_common_26 (by decide) rfl (by omega) (by omega) (by decide) ?_
      refine x_iinc dx_M_common_27 rfl (by decide) ?_
      refine x_goto (tgt := 13) dx_M_common_30 (by decide) ?_
      refine x_w (congrArg (wg 16 LM κ.2.2.1.2.2 ad) (stL_stM u 14 S0 x 0)) ?_
      refine x_lv [(0, .ref (ad 0)), (1, .int (zI s)), (2, .int (zI t)), (3, .int (zI (x + 1)))] rfl ?_
      exact ih13 ((x + 1), (ui S0 x 0)) ⟨by dsimp only; omega, by dsimp only; omega, fun i => by
                                                            dsimp only
                                                            unfold ui
                                                            split
                                                            · exact RgL_0
                                                            · exact rS i, fun i q => by
                                                            dsimp only at q ⊢
                                                            by_cases c : i = x
                                                            · rw [c, ui_at]
                                                            · rw [ui_ne _ _ c]; exact zS i ⟨q.1, by omega⟩⟩ (by dsimp only; omega)
  ·
    obtain ⟨-, g0, ng⟩ := hz.resolve_left (fun q => by omega)
    refine x_lconst (z := 0) dx_M_common_9 (by decide) ?_
    exact hret _ _ _ _ ⟨h2, Or.inr ⟨ng, g0⟩⟩ dx_M_common_10
