set_option maxRecDepth 100000 in
set_option maxHeartbeats 4000000 in
theorem c_M_merge {l : Launch} {D : va_G} {ca : Nat → ClassId} {ad : Nat → Nat} {σ : S0} {s t : Int} (hs : Ok σ) (h0 : 0 ≤ σ.1 2) (h40 : σ.1 2 ≤ 40) (s0 : 0 ≤ s) (s1 : s < 40) (t0 : 0 ≤ t) (t1 : t < 40) : CI l mn_M_merge kw_M_merge (rmk 1) D ca [.ref (ad 0), .int (zI s), .int (zI t)] (wg 16 LM ca ad σ) (fun z u => bz (σ.2.1 7 s ≠ σ.2.1 7 t) = z ∧ stR σ 7 (mg (σ.2.1 7) s t (σ.1 2)) = u) (wg 16 LM ca ad) := by
  refine ci_in rc_M cd_M_merge 6 .boolean rfl rfl (by decide) (Nat.le_of_ble_eq_true rfl) (fun κ h1 h2 h3 hret => ?_)
  subst h1; subst h2; subst h3
  refine x_lv [(0, .ref (ad 0)), (1, .int (zI s)), (2, .int (zI t))] rfl ?_
  have hmn : Rg (vmin (σ.2.1 7 s) (σ.2.1 7 t)) := vmin_rg (hs.2.1 7 s) (hs.2.1 7 t)
  have hmx : Rg (vmax (σ.2.1 7 s) (σ.2.1 7 t)) := vmax_rg (hs.2.1 7 s) (hs.2.1 7 t)
  refine x_aload_n dx_M_merge_0 rfl rfl ?_
  refine x_get fa_M_28 dx_M_merge_1 (by decide) rfl rfl ?_
  refine x_iload_n dx_M_merge_4 rfl rfl ?_
  refine x_iald dx_M_merge_5 (by decide) rfl (by omega) (by omega) (by decide) ?_
  refine x_aload_n dx_M_merge_6 rfl rfl ?_
  refine x_get fa_M_28 dx_M_merge_7 (by decide) rfl rfl ?_
  refine x_iload_n dx_M_merge_10 rfl rfl ?_
  refine x_iald dx_M_merge_11 (by decide) rfl (by omega) (by omega) (by decide) ?_
  refine x_tern 30 2 (fun v => v = (vmin (σ.2.1 7 s) (σ.2.1 7 t))) (fun v12 hv12 => ?_) (fun jn12 => ?_)
  ·
    subst hv12
    refine x_istore_n dx_M_merge_30 rfl (by decide) ?_
    refine x_aload_n dx_M_merge_31 rfl rfl ?_
    refine x_get fa_M_28 dx_M_merge_32 (by decide) rfl rfl ?_
    refine x_iload_n dx_M_merge_35 rfl rfl ?_
    refine x_iald dx_M_merge_36 (by decide) rfl (by omega) (by omega) (by decide) ?_
    refine x_aload_n dx_M_merge_37 rfl rfl ?_
    refine x_get fa_M_28 dx_M_merge_38 (by decide) rfl rfl ?_
    refine x_iload_n dx_M_merge_41 rfl rfl ?_
    refine x_iald dx_M_merge_42 (by decide) rfl (by omega) (by omega) (by decide) ?_
    refine x_tern 61 2 (fun v => v = (vmax (σ.2.1 7 s) (σ.2.1 7 t))) (fun v43 hv43 => ?_) (fun jn43 => ?_)
    ·
      subst hv43
      refine x_istore dx_M_merge_61 (by decide) ?_
      refine x_iconst dx_M_merge_63 ?_
      refine x_istore dx_M_merge_64 (by decide) ?_
      refine x_w (w' := wg 16 LM κ.2.2.1.2.2 ad (stR σ 7 (mvF (σ.2.1 7) (vmax (σ.2.1 7 s) (σ.2.1 7 t)) (vmin (σ.2.1 7 s) (σ.2.1 7 t)) 0))) (by rw [mvF_0, stR_self]) ?_
      refine x_lv [(0, .ref (ad 0)), (3, .int (zI (vmin (σ.2.1 7 s) (σ.2.1 7 t)))), (4, .int (zI (vmax (σ.2.1 7 s) (σ.2.1 7 t)))), (5, .int (zI 0))] rfl ?_
      refine x_loop (fun x : Int => X κ (rmk 1) rc_M cd_M_merge 6 (wg 16 LM κ.2.2.1.2.2 ad (stR σ 7 (mvF (σ.2.1 7) (vmax (σ.2.1 7 s) (σ.2.1 7 t)) (vmin (σ.2.1 7 s) (σ.2.1 7 t)) x))) 0 0 66 [(0, .ref (ad 0)), (3, .int (zI (vmin (σ.2.1 7 s) (σ.2.1 7 t)))), (4, .int (zI (vmax (σ.2.1 7 s) (σ.2.1 7 t)))), (5, .int (zI x))] []) (fun x => 0 ≤ x ∧ x ≤ σ.1 2) (fun x => (σ.1 2 - x).toNat) (fun x hi66 ih66 => ?_) 0 ⟨Int.le_refl _, h0⟩
      obtain ⟨x0, x1⟩ := hi66
      refine x_iload dx_M_merge_66 rfl ?_
      refine x_aload_n dx_M_merge_68 rfl rfl ?_
      refine x_get fa_M_61 dx_M_merge_69 (by decide) rfl rfl ?_
      refine x_icmp_ge (tgt := 111) dx_M_merge_72 (by decide) ⟨by omega, by omega⟩ (hs.1 _) (fun h72 => ?_) (fun h72 => ?_)
      ·
        have h72 : σ.1 2 ≤ x := h72
        refine x_iload_n dx_M_merge_111 rfl rfl ?_
        refine x_iload dx_M_merge_112 rfl ?_
        refine x_icmp_eq (tgt := 121) dx_M_merge_114 (by decide) hmn hmx (fun h114 => ?_) (fun h114 => ?_)
        ·
          refine x_iconst dx_M_merge_121 ?_
          have e : x = σ.1 2 := Int.le_antisymm x1 h72
          subst e
          first
            | exact hret _ _ _ _ ⟨bz_t (fun q => h114 (vmm.mpr q)), rfl⟩ rfl dx_M_merge_122
            | exact hret _ _ _ _ ⟨bz_f (fun q => q (vmm.mp h114)), rfl⟩ rfl dx_M_merge_122
        ·
          refine x_iconst dx_M_merge_117 ?_
          refine x_goto (tgt := 122) dx_M_merge_118 (by decide) ?_
          have e : x = σ.1 2 := Int.le_antisymm x1 h72
          subst e
          first
            | exact hret _ _ _ _ ⟨bz_t (fun q => h114 (vmm.mpr q)), rfl⟩ rfl dx_M_merge_122
            | exact hret _ _ _ _ ⟨bz_f (fun q => q (vmm.mp h114)), rfl⟩ rfl dx_M_merge_122
      ·
        have h72 : x < σ.1 2 := h72
        refine x_aload_n dx_M_merge_75 rfl rfl ?_
        refine x_get fa_M_28 dx_M_merge_76 (by decide) rfl rfl ?_
        refine x_iload dx_M_merge_79 rfl ?_
        refine x_aload_n dx_M_merge_81 rfl rfl ?_
        refine x_get fa_M_28 dx_M_merge_82 (by decide) rfl rfl ?_
        refine x_iload dx_M_merge_85 rfl ?_
        refine x_iald dx_M_merge_87 (by decide) rfl (by omega) (by omega) (by decide) ?_
        refine x_iload dx_M_merge_88 rfl ?_
        refine x_icmp_ne (tgt := 97) dx_M_merge_90 (by decide) (mv_rg (hs.2.1 7) hmn x) hmx (fun h90 => ?_) (fun h90 => ?_)
        ·
          rw [stR_at, mvF_at] at h90
          refine x_aload_n dx_M_merge_97 rfl rfl ?_
          refine x_get fa_M_28 dx_M_merge_98 (by decide) rfl rfl ?_
          refine x_iload dx_M_merge_101 rfl ?_
          refine x_iald dx_M_merge_103 (by decide) rfl (by omega) (by omega) (by decide) ?_
          refine x_iast dx_M_merge_104 (by decide) rfl (by omega) (by omega) (by decide) ?_
          refine x_iinc dx_M_merge_105 rfl (by decide) ?_
          refine x_goto (tgt := 66) dx_M_merge_108 (by decide) ?_
          first
            | refine x_w (congrArg (wg 16 LM κ.2.2.1.2.2 ad) (mst_ne h90)) ?_
            | refine x_w (congrArg (wg 16 LM κ.2.2.1.2.2 ad) (mst_eq x0 h90)) ?_
          refine x_lv [(0, .ref (ad 0)), (3, .int (zI (vmin (σ.2.1 7 s) (σ.2.1 7 t)))), (4, .int (zI (vmax (σ.2.1 7 s) (σ.2.1 7 t)))), (5, .int (zI (x + 1)))] rfl ?_
          exact ih66 (x + 1) ⟨by omega, by omega⟩ (by have h72 : x < σ.1 2 := h72; omega)
        ·
          rw [stR_at, mvF_at] at h90
          refine x_iload_n dx_M_merge_93 rfl rfl ?_
          refine x_goto (tgt := 104) dx_M_merge_94 (by decide) ?_
          refine x_iast dx_M_merge_104 (by decide) rfl (by omega) (by omega) (by decide) ?_
          refine x_iinc dx_M_merge_105 rfl (by decide) ?_
          refine x_goto (tgt := 66) dx_M_merge_108 (by decide) ?_
          first
            | refine x_w (congrArg (wg 16 LM κ.2.2.1.2.2 ad) (mst_ne h90)) ?_
            | refine x_w (congrArg (wg 16 LM κ.2.2.1.2.2 ad) (mst_eq x0 h90)) ?_
          refine x_lv [(0, .ref (ad 0)), (3, .int (zI (vmin (σ.2.1 7 s) (σ.2.1 7 t)))), (4, .int (zI (vmax (σ.2.1 7 s) (σ.2.1 7 t)))), (5, .int (zI (x + 1)))] rfl ?_
          exact ih66 (x + 1) ⟨by omega, by omega⟩ (by have h72 : x < σ.1 2 := h72; omega)
    ·
      refine x_icmp_ge (tgt := 55) dx_M_merge_43 (by decide) (by first | exact hs.2.1 _ _ | exact hs.1 _ | exact ⟨by omega, by omega⟩) (by first | exact hs.2.1 _ _ | exact hs.1 _ | exact ⟨by omega, by omega⟩) (fun h43 => ?_) (fun h43 => ?_)
      ·
        refine x_aload_n dx_M_merge_55 rfl rfl ?_
        refine x_get fa_M_28 dx_M_merge_56 (by decide) rfl rfl ?_
        refine x_iload_n dx_M_merge_59 rfl rfl ?_
        refine x_iald dx_M_merge_60 (by decide) rfl (by omega) (by omega) (by decide) ?_
        first
          | exact jn43 _ (if_neg (by omega)).symm
          | exact jn43 _ (if_pos h43).symm
      ·
        refine x_aload_n dx_M_merge_46 rfl rfl ?_
        refine x_get fa_M_28 dx_M_merge_47 (by decide) rfl rfl ?_
        refine x_iload_n dx_M_merge_50 rfl rfl ?_
        refine x_iald dx_M_merge_51 (by decide) rfl (by omega) (by omega) (by decide) ?_
        refine x_goto (tgt := 61) dx_M_merge_52 (by decide) ?_
        first
          | exact jn43 _ (if_neg (by omega)).symm
          | exact jn43 _ (if_pos h43).symm
  ·
    refine x_icmp_ge (tgt := 24) dx_M_merge_12 (by decide) (by first | exact hs.2.1 _ _ | exact hs.1 _ | exact ⟨by omega, by omega⟩) (by first | exact hs.2.1 _ _ | exact hs.1 _ | exact ⟨by omega, by omega⟩) (fun h12 => ?_) (fun h12 => ?_)
    ·
      refine x_aload_n dx_M_merge_24 rfl rfl ?_
      refine x_get fa_M_28 dx_M_merge_25 (by decide) rfl rfl ?_
      refine x_iload_n dx_M_merge_28 rfl rfl ?_
      refine x_iald dx_M_merge_29 (by decide) rfl (by omega) (by omega) (by decide) ?_
      first
        | exact jn12 _ (if_neg (by omega)).symm
        | exact jn12 _ (if_pos h12).symm
    ·
      refine x_aload_n dx_M_merge_15 rfl rfl ?_
      refine x_get fa_M_28 dx_M_merge_16 (by decide) rfl rfl ?_
      refine x_iload_n dx_M_merge_19 rfl rfl ?_
      refine x_iald dx_M_merge_20 (by decide) rfl (by omega) (by omega) (by decide) ?_
      refine x_goto (tgt := 30) dx_M_merge_21 (by decide) ?_
      first
        | exact jn12 _ (if_neg (by omega)).symm
        | exact jn12 _ (if_pos h12).symm
set_option maxRecDepth 100000 in
set_option maxHeartbeats 4000000 in
theorem c_M_compare {l : Launch} {D : va_G} {ca : Nat → ClassId} {ad : Nat → Nat} {σ : S0} {n : Int} {kd fa sa : Int → Int} {R : Int → Int → Prop} (hs : Ok σ) (T : Tb n kd fa sa) (hT : RT σ n kd fa sa) (hR : Eqv R) (hC : Cl n kd fa sa R) (hL : LW n (σ.2.1 7) R) : CI l mn_M_compare kw_M_compare (rmk 2) D ca [.ref (ad 0)] (wg 16 LM ca ad σ) (CPost σ n kd fa sa R) (wg 16 LM ca ad) := by
  refine ci_in rc_M cd_M_compare 6 .int rfl rfl (by decide) (Nat.le_of_ble_eq_true rfl) (fun κ h1 h2 h3 hret => ?_)
  subst h1; subst h2; subst h3
  refine x_lv [(0, .ref (ad 0))] rfl ?_
  have hn := hT.1
  subst hn
  have n40 := T.2.1
  refine x_iconst dx_M_compare_0 ?_
  refine x_istore_n dx_M_compare_1 rfl (by decide) ?_
  refine x_iconst dx_M_compare_2 ?_
  refine x_istore_n dx_M_compare_3 rfl (by decide) ?_
  refine x_w (w' := wg 16 LM κ.2.2.1.2.2 ad (stR σ 7 (σ.2.1 7))) (by rw [stR_self]) ?_
  refine x_lv [(0, .ref (ad 0)), (1, .int (zI 0)), (2, .int (zI 0))] rfl ?_
  refine x_loop (fun q : Int × Int × (Int → Int) => X κ (rmk 2) rc_M cd_M_compare 6 (wg 16 LM κ.2.2.1.2.2 ad (stR σ 7 q.2.2)) 0 0 4 [(0, .ref (ad 0)), (1, .int (zI q.2.1)), (2, .int (zI q.1))] []) (fun q => 0 ≤ q.1 ∧ q.1 ≤ σ.1 2 ∧ CW (σ.1 2) R (σ.2.1 7) q.2.2 q.2.1 ∧ (q.2.1 = 0 → QP (σ.1 2) kd fa sa (σ.2.1 7) q.1 0)) (fun q => (σ.1 2 - q.1).toNat) (fun q hi4 ih4 => ?_) (0, 0, (σ.2.1 7)) ⟨Int.le_refl _, T.1, CW.rfl hL (hs.2.1 7), fun _ x y hx hy hlt ho => by dsimp only at ho; omega⟩
  obtain ⟨s, d0, g⟩ := q
  dsimp only at hi4 ⊢
  obtain ⟨s0, s1, cw0, qp0⟩ := hi4
  refine x_iload_n dx_M_compare_4 rfl rfl ?_
  refine x_aload_n dx_M_compare_5 rfl rfl ?_
  refine x_get fa_M_61 dx_M_compare_6 (by decide) rfl rfl ?_
  refine x_icmp_ge (tgt := 188) dx_M_compare_9 (by decide) ⟨by omega, by omega⟩ (hs.1 _) (fun h9 => ?_) (fun h9 => ?_)
  ·
    have h9 : σ.1 2 ≤ s := h9
    refine x_iload_n dx_M_compare_188 rfl rfl ?_
    have e : s = σ.1 2 := Int.le_antisymm s1 h9
    refine hret _ _ _ _ ⟨g, rfl, cw0.2.1, cw0.1, cw0.2.2.1, cw_reps cw0, ?_⟩ rfl dx_M_compare_189
    rcases cw0.2.2.2 with ⟨e1, e2⟩ | ⟨e1, e2⟩
    · refine Or.inr (Or.inl ⟨e1, e2, clo_of T (fun x y hx hy hlt => ?_)⟩)
      rw [e2]
      exact qp0 e1 x y hx hy hlt (by omega)
    · exact Or.inr (Or.inr ⟨e1, e2⟩)
  ·
    have h9 : s < σ.1 2 := h9
    have is : In (σ.1 2) s := ⟨s0, h9⟩
    refine x_iload_n dx_M_compare_12 rfl rfl ?_
    refine x_iconst dx_M_compare_13 ?_
    refine x_iadd dx_M_compare_14 ?_
    refine x_istore_n dx_M_compare_15 rfl (by decide) ?_
    refine x_lv [(0, .ref (ad 0)), (1, .int (zI d0)), (2, .int (zI s)), (3, .int (zI (s + 1)))] rfl ?_
    refine x_loop (fun p : Int × Int × (Int → Int) => X κ (rmk 2) rc_M cd_M_compare 6 (wg 16 LM κ.2.2.1.2.2 ad (stR σ 7 p.2.2)) 0 0 16 [(0, .ref (ad 0)), (1, .int (zI p.2.1)), (2, .int (zI s)), (3, .int (zI p.1))] []) (fun p => s + 1 ≤ p.1 ∧ p.1 ≤ σ.1 2 ∧ CW (σ.1 2) R (σ.2.1 7) p.2.2 p.2.1 ∧ (p.2.1 = 0 → QP (σ.1 2) kd fa sa (σ.2.1 7) s p.1)) (fun p => (σ.1 2 - p.1).toNat) (fun p hi16 ih16 => ?_) ((s + 1), d0, g) ⟨Int.le_refl _, by dsimp only; omega, cw0, fun q => qp_col (qp0 q)⟩
    obtain ⟨t, d, g'⟩ := p
    dsimp only at hi16 ⊢
    obtain ⟨t0, t1, cw, qp⟩ := hi16
    refine x_iload_n dx_M_compare_16 rfl rfl ?_
    refine x_aload_n dx_M_compare_17 rfl rfl ?_
    refine x_get fa_M_61 dx_M_compare_18 (by decide) rfl rfl ?_
    refine x_icmp_ge (tgt := 182) dx_M_compare_21 (by decide) ⟨by omega, by omega⟩ (hs.1 _) (fun h21 => ?_) (fun h21 => ?_)
    ·
      have h21 : σ.1 2 ≤ t := h21
      refine x_iinc dx_M_compare_182 rfl (by decide) ?_
      refine x_goto (tgt := 4) dx_M_compare_185 (by decide) ?_
      refine x_lv [(0, .ref (ad 0)), (1, .int (zI d)), (2, .int (zI (s + 1)))] rfl ?_
      exact ih4 ((s + 1), d, g') ⟨by dsimp only; omega, by dsimp only; omega, cw, fun q => qp_row (by have e : t = σ.1 2 := Int.le_antisymm t1 h21; have w := qp q; rw [e] at w; exact w)⟩ (by dsimp only; omega)
    ·
      have h21 : t < σ.1 2 := h21
      have it : In (σ.1 2) t := ⟨by omega, h21⟩
      have rs := rt_x T hT is
      have rt := rt_x T hT it
      have rk := rt_k T hT is it
      refine x_aload_n dx_M_compare_24 rfl rfl ?_
      refine x_get fa_M_28 dx_M_compare_25 (by decide) rfl rfl ?_
      refine x_iload_n dx_M_compare_28 rfl rfl ?_
      refine x_iald dx_M_compare_29 (by decide) rfl (by omega) (by omega) (by decide) ?_
      refine x_aload_n dx_M_compare_30 rfl rfl ?_
      refine x_get fa_M_28 dx_M_compare_31 (by decide) rfl rfl ?_
      refine x_iload_n dx_M_compare_34 rfl rfl ?_
      refine x_iald dx_M_compare_35 (by decide) rfl (by omega) (by omega) (by decide) ?_
      refine x_icmp_ne (tgt := 176) dx_M_compare_36 (by decide) (cw.2.1 s) (cw.2.1 t) (fun h36 => ?_) (fun h36 => ?_)
      ·
        have h36 : g' s ≠ g' t := h36
        have K7 : d = 0 → C1 kd fa sa (σ.2.1 7) s t := fun q e => by
          rcases cw.2.2.2 with ⟨-, e9⟩ | ⟨e9, -⟩
          · rw [e9] at h36; exact absurd e h36
          · omega
        refine x_iinc dx_M_compare_176 rfl (by decide) ?_
        refine x_goto (tgt := 16) dx_M_compare_179 (by decide) ?_
        first
          | (refine x_lv [(0, .ref (ad 0)), (1, .int (zI d)), (2, .int (zI s)), (3, .int (zI (t + 1)))] rfl ?_; exact ih16 ((t + 1), d, g') ⟨by dsimp only; omega, by dsimp only; omega, cw, fun q => qp_next (qp q) (K7 q)⟩ (by dsimp only; omega))
          | (refine x_lv [(0, .ref (ad 0)), (1, .int (zI 1)), (2, .int (zI s)), (3, .int (zI (t + 1)))] rfl ?_; exact ih16 ((t + 1), 1, g2) ⟨by dsimp only; omega, by dsimp only; omega, K9, fun q => by have q : (1 : Int) = 0 := q; omega⟩ (by dsimp only; omega))
          | (refine x_lv [(0, .ref (ad 0)), (1, .int (zI d)), (2, .int (zI s)), (3, .int (zI (t + 1)))] rfl ?_; exact ih16 ((t + 1), d, g2) ⟨by dsimp only; omega, by dsimp only; omega, K9, K8⟩ (by dsimp only; omega))
      ·
        have h36 : g' s = g' t := h36
        refine x_aload_n dx_M_compare_39 rfl rfl ?_
        refine x_get fa_M_7 dx_M_compare_40 (by decide) rfl rfl ?_
        refine x_iload_n dx_M_compare_43 rfl rfl ?_
        refine x_iald dx_M_compare_44 (by decide) rfl (by omega) (by omega) (by decide) ?_
        refine x_if_lt (tgt := 176) dx_M_compare_45 (by decide) (hs.2.1 1 s) (fun h45 => ?_) (fun h45 => ?_)
        ·
          have K7 : d = 0 → C1 kd fa sa (σ.2.1 7) s t := fun q e k1 => absurd (rs.1.mp h45) k1
          refine x_iinc dx_M_compare_176 rfl (by decide) ?_
          refine x_goto (tgt := 16) dx_M_compare_179 (by decide) ?_
          first
            | (refine x_lv [(0, .ref (ad 0)), (1, .int (zI d)), (2, .int (zI s)), (3, .int (zI (t + 1)))] rfl ?_; exact ih16 ((t + 1), d, g') ⟨by dsimp only; omega, by dsimp only; omega, cw, fun q => qp_next (qp q) (K7 q)⟩ (by dsimp only; omega))
            | (refine x_lv [(0, .ref (ad 0)), (1, .int (zI 1)), (2, .int (zI s)), (3, .int (zI (t + 1)))] rfl ?_; exact ih16 ((t + 1), 1, g2) ⟨by dsimp only; omega, by dsimp only; omega, K9, fun q => by have q : (1 : Int) = 0 := q; omega⟩ (by dsimp only; omega))
            | (refine x_lv [(0, .ref (ad 0)), (1, .int (zI d)), (2, .int (zI s)), (3, .int (zI (t + 1)))] rfl ?_; exact ih16 ((t + 1), d, g2) ⟨by dsimp only; omega, by dsimp only; omega, K9, K8⟩ (by dsimp only; omega))
        ·
          have ks : kd s ≠ -1 := fun q => by have := rs.1.mpr q; have h45 : 0 ≤ σ.2.1 1 s := h45; omega
          refine x_aload_n dx_M_compare_48 rfl rfl ?_
          refine x_get fa_M_7 dx_M_compare_49 (by decide) rfl rfl ?_
          refine x_iload_n dx_M_compare_52 rfl rfl ?_
          refine x_iald dx_M_compare_53 (by decide) rfl (by omega) (by omega) (by decide) ?_
          refine x_if_lt (tgt := 176) dx_M_compare_54 (by decide) (hs.2.1 1 t) (fun h54 => ?_) (fun h54 => ?_)
          ·
            have K7 : d = 0 → C1 kd fa sa (σ.2.1 7) s t := fun q e _ k1 => absurd (rt.1.mp h54) k1
            refine x_iinc dx_M_compare_176 rfl (by decide) ?_
            refine x_goto (tgt := 16) dx_M_compare_179 (by decide) ?_
            first
              | (refine x_lv [(0, .ref (ad 0)), (1, .int (zI d)), (2, .int (zI s)), (3, .int (zI (t + 1)))] rfl ?_; exact ih16 ((t + 1), d, g') ⟨by dsimp only; omega, by dsimp only; omega, cw, fun q => qp_next (qp q) (K7 q)⟩ (by dsimp only; omega))
              | (refine x_lv [(0, .ref (ad 0)), (1, .int (zI 1)), (2, .int (zI s)), (3, .int (zI (t + 1)))] rfl ?_; exact ih16 ((t + 1), 1, g2) ⟨by dsimp only; omega, by dsimp only; omega, K9, fun q => by have q : (1 : Int) = 0 := q; omega⟩ (by dsimp only; omega))
              | (refine x_lv [(0, .ref (ad 0)), (1, .int (zI d)), (2, .int (zI s)), (3, .int (zI (t + 1)))] rfl ?_; exact ih16 ((t + 1), d, g2) ⟨by dsimp only; omega, by dsimp only; omega, K9, K8⟩ (by dsimp only; omega))
          ·
            have kt : kd t ≠ -1 := fun q => by have := rt.1.mpr q; have h54 : 0 ≤ σ.2.1 1 t := h54; omega
            have hst : R s t := cw.1.2.2 s t is it h36
            refine x_aload_n dx_M_compare_57 rfl rfl ?_
            refine x_get fa_M_7 dx_M_compare_58 (by decide) rfl rfl ?_
            refine x_iload_n dx_M_compare_61 rfl rfl ?_
            refine x_iald dx_M_compare_62 (by decide) rfl (by omega) (by omega) (by decide) ?_
            refine x_aload_n dx_M_compare_63 rfl rfl ?_
            refine x_get fa_M_7 dx_M_compare_64 (by decide) rfl rfl ?_
            refine x_iload_n dx_M_compare_67 rfl rfl ?_
            refine x_iald dx_M_compare_68 (by decide) rfl (by omega) (by omega) (by decide) ?_
            refine x_icmp_ne (tgt := 87) dx_M_compare_69 (by decide) (hs.2.1 1 s) (hs.2.1 1 t) (fun h69 => ?_) (fun h69 => ?_)
            ·
              have kn : kd s ≠ kd t := fun q => h69 (rk.mpr q).1
              refine x_iconst dx_M_compare_87 ?_
              exact hret _ _ _ _ ⟨g', rfl, cw.2.1, cw.1, cw.2.2.1, cw_reps cw, Or.inl ⟨rfl, s, t, is, it, hst, ks, kt, kn⟩⟩ rfl dx_M_compare_88
            ·
              refine x_aload_n dx_M_compare_72 rfl rfl ?_
              refine x_get fa_M_13 dx_M_compare_73 (by decide) rfl rfl ?_
              refine x_iload_n dx_M_compare_76 rfl rfl ?_
              refine x_iald dx_M_compare_77 (by decide) rfl (by omega) (by omega) (by decide) ?_
              refine x_aload_n dx_M_compare_78 rfl rfl ?_
              refine x_get fa_M_13 dx_M_compare_79 (by decide) rfl rfl ?_
              refine x_iload_n dx_M_compare_82 rfl rfl ?_
              refine x_iald dx_M_compare_83 (by decide) rfl (by omega) (by omega) (by decide) ?_
              refine x_icmp_eq (tgt := 89) dx_M_compare_84 (by decide) (hs.2.1 2 s) (hs.2.1 2 t) (fun h84 => ?_) (fun h84 => ?_)
              ·
                have ke : kd s = kd t := rk.mp ⟨h69, h84⟩
                have hcl := hC s t is it ks ke hst
                have fe := T.fa_eq is it ks ke
                have hi3 : fa s ≠ -1 → In (σ.1 2) (fa s) ∧ In (σ.1 2) (fa t) := fun q => ⟨T.fa_in is q, T.fa_in it (fun w => q (fe.1.mpr w))⟩
                have hi4 : sa s ≠ -1 → In (σ.1 2) (sa s) ∧ In (σ.1 2) (sa t) := fun q => ⟨T.sa_in is q, T.sa_in it (fun w => q (fe.2.mpr w))⟩
                refine x_aload_n dx_M_compare_89 rfl rfl ?_
                refine x_get fa_M_13 dx_M_compare_90 (by decide) rfl rfl ?_
                refine x_iload_n dx_M_compare_93 rfl rfl ?_
                refine x_iald dx_M_compare_94 (by decide) rfl (by omega) (by omega) (by decide) ?_
                refine x_ternW 122 1 (fun v u => ∃ g1, stR σ 7 g1 = u ∧ CW (σ.1 2) R g' g1 v ∧ (fa s ≠ -1 → g1 (fa s) = g1 (fa t))) (fun v95 u95 hv95 => ?_) (fun jn95 => ?_)
                ·
                  obtain ⟨g1, rfl, w1, a1⟩ := hv95
                  have hv1 : v95 = 0 ∨ v95 = 1 := w1.2.2.2.imp (fun q => q.1) (fun q => q.1)
                  refine x_istore dx_M_compare_122 (by decide) ?_
                  refine x_aload_n dx_M_compare_124 rfl rfl ?_
                  refine x_get fa_M_13 dx_M_compare_125 (by decide) rfl rfl ?_
                  refine x_iload_n dx_M_compare_128 rfl rfl ?_
                  refine x_iald dx_M_compare_129 (by decide) rfl (by omega) (by omega) (by decide) ?_
                  refine x_iconst dx_M_compare_130 ?_
                  refine x_ternW 158 2 (fun v u => ∃ g2, stR σ 7 g2 = u ∧ CW (σ.1 2) R g1 g2 v ∧ (sa s ≠ -1 → g2 (sa s) = g2 (sa t))) (fun v131 u131 hv131 => ?_) (fun jn131 => ?_)
                  ·
                    obtain ⟨g2, rfl, w2, a2⟩ := hv131
                    have hv2 : v131 = 0 ∨ v131 = 1 := w2.2.2.2.imp (fun q => q.1) (fun q => q.1)
                    refine x_istore dx_M_compare_158 (by decide) ?_
                    refine x_iload dx_M_compare_160 rfl ?_
                    refine x_if_ne (tgt := 170) dx_M_compare_162 (by decide) ⟨by omega, by omega⟩ (fun h162 => ?_) (fun h162 => ?_)
                    ·
                      have K9 : CW (σ.1 2) R (σ.2.1 7) g2 1 := by
                        have W := (cw.trans w1).2 h162
                        by_cases c : v131 = 0
                        · exact (W.trans w2).1 c
                        · exact (W.trans w2).2 c
                      refine x_iconst dx_M_compare_170 ?_
                      refine x_goto (tgt := 175) dx_M_compare_171 (by decide) ?_
                      refine x_istore_n dx_M_compare_175 rfl (by decide) ?_
                      refine x_iinc dx_M_compare_176 rfl (by decide) ?_
                      refine x_goto (tgt := 16) dx_M_compare_179 (by decide) ?_
                      first
                        | (refine x_lv [(0, .ref (ad 0)), (1, .int (zI d)), (2, .int (zI s)), (3, .int (zI (t + 1)))] rfl ?_; exact ih16 ((t + 1), d, g') ⟨by dsimp only; omega, by dsimp only; omega, cw, fun q => qp_next (qp q) (K7 q)⟩ (by dsimp only; omega))
                        | (refine x_lv [(0, .ref (ad 0)), (1, .int (zI 1)), (2, .int (zI s)), (3, .int (zI (t + 1)))] rfl ?_; exact ih16 ((t + 1), 1, g2) ⟨by dsimp only; omega, by dsimp only; omega, K9, fun q => by have q : (1 : Int) = 0 := q; omega⟩ (by dsimp only; omega))
                        | (refine x_lv [(0, .ref (ad 0)), (1, .int (zI d)), (2, .int (zI s)), (3, .int (zI (t + 1)))] rfl ?_; exact ih16 ((t + 1), d, g2) ⟨by dsimp only; omega, by dsimp only; omega, K9, K8⟩ (by dsimp only; omega))
                    ·
                      have W := (cw.trans w1).1 h162
                      refine x_iload dx_M_compare_165 rfl ?_
                      refine x_if_eq (tgt := 174) dx_M_compare_167 (by decide) ⟨by omega, by omega⟩ (fun h167 => ?_) (fun h167 => ?_)
                      ·
                        have K9 : CW (σ.1 2) R (σ.2.1 7) g2 d := (W.trans w2).1 h167
                        have K8 : d = 0 → QP (σ.1 2) kd fa sa (σ.2.1 7) s (t + 1) := fun q => qp_next (qp q) (fun _ _ _ => by
                            have e9 : g2 = σ.2.1 7 := by
                              rcases K9.2.2.2 with ⟨-, e9⟩ | ⟨e9, -⟩
                              · exact e9
                              · omega
                            have e8 : g2 = g1 := by
                              rcases w2.2.2.2 with ⟨-, e8⟩ | ⟨e8, -⟩
                              · exact e8
                              · omega
                            rw [← e9]
                            exact ⟨ke, fun z => by rw [e8]; exact a1 z, a2⟩)
                        refine x_iload_n dx_M_compare_174 rfl rfl ?_
                        refine x_istore_n dx_M_compare_175 rfl (by decide) ?_
                        refine x_iinc dx_M_compare_176 rfl (by decide) ?_
                        refine x_goto (tgt := 16) dx_M_compare_179 (by decide) ?_
                        first
                          | (refine x_lv [(0, .ref (ad 0)), (1, .int (zI d)), (2, .int (zI s)), (3, .int (zI (t + 1)))] rfl ?_; exact ih16 ((t + 1), d, g') ⟨by dsimp only; omega, by dsimp only; omega, cw, fun q => qp_next (qp q) (K7 q)⟩ (by dsimp only; omega))
                          | (refine x_lv [(0, .ref (ad 0)), (1, .int (zI 1)), (2, .int (zI s)), (3, .int (zI (t + 1)))] rfl ?_; exact ih16 ((t + 1), 1, g2) ⟨by dsimp only; omega, by dsimp only; omega, K9, fun q => by have q : (1 : Int) = 0 := q; omega⟩ (by dsimp only; omega))
                          | (refine x_lv [(0, .ref (ad 0)), (1, .int (zI d)), (2, .int (zI s)), (3, .int (zI (t + 1)))] rfl ?_; exact ih16 ((t + 1), d, g2) ⟨by dsimp only; omega, by dsimp only; omega, K9, K8⟩ (by dsimp only; omega))
                      ·
                        have K9 : CW (σ.1 2) R (σ.2.1 7) g2 1 := (W.trans w2).2 h167
                        refine x_iconst dx_M_compare_170 ?_
                        refine x_goto (tgt := 175) dx_M_compare_171 (by decide) ?_
                        refine x_istore_n dx_M_compare_175 rfl (by decide) ?_
                        refine x_iinc dx_M_compare_176 rfl (by decide) ?_
                        refine x_goto (tgt := 16) dx_M_compare_179 (by decide) ?_
                        first
                          | (refine x_lv [(0, .ref (ad 0)), (1, .int (zI d)), (2, .int (zI s)), (3, .int (zI (t + 1)))] rfl ?_; exact ih16 ((t + 1), d, g') ⟨by dsimp only; omega, by dsimp only; omega, cw, fun q => qp_next (qp q) (K7 q)⟩ (by dsimp only; omega))
                          | (refine x_lv [(0, .ref (ad 0)), (1, .int (zI 1)), (2, .int (zI s)), (3, .int (zI (t + 1)))] rfl ?_; exact ih16 ((t + 1), 1, g2) ⟨by dsimp only; omega, by dsimp only; omega, K9, fun q => by have q : (1 : Int) = 0 := q; omega⟩ (by dsimp only; omega))
                          | (refine x_lv [(0, .ref (ad 0)), (1, .int (zI d)), (2, .int (zI s)), (3, .int (zI (t + 1)))] rfl ?_; exact ih16 ((t + 1), d, g2) ⟨by dsimp only; omega, by dsimp only; omega, K9, K8⟩ (by dsimp only; omega))
                  ·
                    refine x_icmp_le (tgt := 157) dx_M_compare_131 (by decide) (hs.2.1 2 s) ⟨by decide, by decide⟩ (fun h131 => ?_) (fun h131 => ?_)
                    ·
                      have K6 : CW (σ.1 2) R g1 g1 0 ∧ (sa s ≠ -1 → g1 (sa s) = g1 (sa t)) := ⟨CW.rfl w1.1 w1.2.1, fun q => by have := rs.2.2.1.mpr q; have h131 : σ.2.1 2 s ≤ 1 := h131; omega⟩
                      refine x_iconst dx_M_compare_157 ?_
                      first
                        | exact jn131 _ _ ⟨g1, rfl, K6⟩
                        | exact jn131 _ _ ⟨g2, rfl, h150 ▸ w2, fun _ => a2⟩
                        | exact jn131 _ _ ⟨g2, rfl, (hz2.resolve_left h150) ▸ w2, fun _ => a2⟩
                    ·
                      have f1 : sa s ≠ -1 := rs.2.2.1.mp h131
                      obtain ⟨i1, i2⟩ := hi4 f1
                      have r1 : σ.2.1 4 s = sa s := rs.2.2.2.2
                      have r2 : σ.2.1 4 t = sa t := rt.2.2.2.2
                      refine x_aload_n dx_M_compare_134 rfl rfl ?_
                      refine x_aload_n dx_M_compare_135 rfl rfl ?_
                      refine x_get fa_M_19 dx_M_compare_136 (by decide) rfl rfl ?_
                      refine x_iload_n dx_M_compare_139 rfl rfl ?_
                      refine x_iald dx_M_compare_140 (by decide) rfl (by omega) (by omega) (by decide) ?_
                      refine x_aload_n dx_M_compare_141 rfl rfl ?_
                      refine x_get fa_M_19 dx_M_compare_142 (by decide) rfl rfl ?_
                      refine x_iload_n dx_M_compare_145 rfl rfl ?_
                      refine x_iald dx_M_compare_146 (by decide) rfl (by omega) (by omega) (by decide) ?_
                      refine x_cvi2 (c_M_merge (ok_stR hs w1.2.1) T.1 T.2.1 (s := σ.2.1 4 s) (t := σ.2.1 4 t) (by omega) (by omega) (by omega) (by omega)) cf_M_76 ⟨rfl, rfl, by decide, by decide⟩ ⟨Nat.zero_le _, Nat.zero_le _⟩ (wl_get (by decide)) rfl rfl (Nat.le_of_ble_eq_true rfl) dx_M_compare_147 (fun z u hp => ?_)
                      have hp : bz (g1 (σ.2.1 4 s) ≠ g1 (σ.2.1 4 t)) = z ∧ stR (stR σ 7 g1) 7 (mg g1 (σ.2.1 4 s) (σ.2.1 4 t) (σ.1 2)) = u := hp
                      rw [r1, r2] at hp
                      obtain ⟨g2, rfl, w2, a2, hz2⟩ := cmp_m hR w1 i1 i2 (hcl.2 f1) hp
                      refine x_if_eq (tgt := 157) dx_M_compare_150 (by decide) ⟨by omega, by omega⟩ (fun h150 => ?_) (fun h150 => ?_)
                      ·
                        refine x_iconst dx_M_compare_157 ?_
                        first
                          | exact jn131 _ _ ⟨g1, rfl, K6⟩
                          | exact jn131 _ _ ⟨g2, rfl, h150 ▸ w2, fun _ => a2⟩
                          | exact jn131 _ _ ⟨g2, rfl, (hz2.resolve_left h150) ▸ w2, fun _ => a2⟩
                      ·
                        refine x_iconst dx_M_compare_153 ?_
                        refine x_goto (tgt := 158) dx_M_compare_154 (by decide) ?_
                        first
                          | exact jn131 _ _ ⟨g1, rfl, K6⟩
                          | exact jn131 _ _ ⟨g2, rfl, h150 ▸ w2, fun _ => a2⟩
                          | exact jn131 _ _ ⟨g2, rfl, (hz2.resolve_left h150) ▸ w2, fun _ => a2⟩
                ·
                  refine x_if_le (tgt := 121) dx_M_compare_95 (by decide) (hs.2.1 2 s) (fun h95 => ?_) (fun h95 => ?_)
                  ·
                    have K5 : CW (σ.1 2) R g' g' 0 ∧ (fa s ≠ -1 → g' (fa s) = g' (fa t)) := ⟨CW.rfl cw.1 cw.2.1, fun q => by have := rs.2.1.mpr q; have h95 : σ.2.1 2 s ≤ 0 := h95; omega⟩
                    refine x_iconst dx_M_compare_121 ?_
                    first
                      | exact jn95 _ _ ⟨g', rfl, K5⟩
                      | exact jn95 _ _ ⟨g1, rfl, h114 ▸ w1, fun _ => a1⟩
                      | exact jn95 _ _ ⟨g1, rfl, (hz1.resolve_left h114) ▸ w1, fun _ => a1⟩
                  ·
                    have f1 : fa s ≠ -1 := rs.2.1.mp h95
                    obtain ⟨i1, i2⟩ := hi3 f1
                    have r1 : σ.2.1 3 s = fa s := rs.2.2.2.1
                    have r2 : σ.2.1 3 t = fa t := rt.2.2.2.1
                    refine x_aload_n dx_M_compare_98 rfl rfl ?_
                    refine x_aload_n dx_M_compare_99 rfl rfl ?_
                    refine x_get fa_M_16 dx_M_compare_100 (by decide) rfl rfl ?_
                    refine x_iload_n dx_M_compare_103 rfl rfl ?_
                    refine x_iald dx_M_compare_104 (by decide) rfl (by omega) (by omega) (by decide) ?_
                    refine x_aload_n dx_M_compare_105 rfl rfl ?_
                    refine x_get fa_M_16 dx_M_compare_106 (by decide) rfl rfl ?_
                    refine x_iload_n dx_M_compare_109 rfl rfl ?_
                    refine x_iald dx_M_compare_110 (by decide) rfl (by omega) (by omega) (by decide) ?_
                    refine x_cvi2 (c_M_merge (ok_stR hs cw.2.1) T.1 T.2.1 (s := σ.2.1 3 s) (t := σ.2.1 3 t) (by omega) (by omega) (by omega) (by omega)) cf_M_76 ⟨rfl, rfl, by decide, by decide⟩ ⟨Nat.zero_le _, Nat.zero_le _⟩ (wl_get (by decide)) rfl rfl (Nat.le_of_ble_eq_true rfl) dx_M_compare_111 (fun z u hp => ?_)
                    have hp : bz (g' (σ.2.1 3 s) ≠ g' (σ.2.1 3 t)) = z ∧ stR (stR σ 7 g') 7 (mg g' (σ.2.1 3 s) (σ.2.1 3 t) (σ.1 2)) = u := hp
                    rw [r1, r2] at hp
                    obtain ⟨g1, rfl, w1, a1, hz1⟩ := cmp_m hR cw i1 i2 (hcl.1 f1) hp
                    refine x_if_eq (tgt := 121) dx_M_compare_114 (by decide) ⟨by omega, by omega⟩ (fun h114 => ?_) (fun h114 => ?_)
                    ·
                      refine x_iconst dx_M_compare_121 ?_
                      first
                        | exact jn95 _ _ ⟨g', rfl, K5⟩
                        | exact jn95 _ _ ⟨g1, rfl, h114 ▸ w1, fun _ => a1⟩
                        | exact jn95 _ _ ⟨g1, rfl, (hz1.resolve_left h114) ▸ w1, fun _ => a1⟩
                    ·
                      refine x_iconst dx_M_compare_117 ?_
                      refine x_goto (tgt := 122) dx_M_compare_118 (by decide) ?_
                      first
                        | exact jn95 _ _ ⟨g', rfl, K5⟩
                        | exact jn95 _ _ ⟨g1, rfl, h114 ▸ w1, fun _ => a1⟩
                        | exact jn95 _ _ ⟨g1, rfl, (hz1.resolve_left h114) ▸ w1, fun _ => a1⟩
              ·
                have kn : kd s ≠ kd t := fun q => h84 (rk.mpr q).2
                refine x_iconst dx_M_compare_87 ?_
                exact hret _ _ _ _ ⟨g', rfl, cw.2.1, cw.1, cw.2.2.1, cw_reps cw, Or.inl ⟨rfl, s, t, is, it, hst, ks, kt, kn⟩⟩ rfl dx_M_compare_88
set_option maxRecDepth 100000 in
set_option maxHeartbeats 4000000 in
theorem c_M_findShapes {l : Launch} {D : va_G} {ca : Nat → ClassId} {ad : Nat → Nat} {σ : S0} {n : Int} {kd fa sa : Int → Int} (hs : Ok σ) (T : Tb n kd fa sa) (hT : RT σ n kd fa sa) : CV l mn_M_findShapes kw_M_findShapes (rmk 1) D ca [.ref (ad 0)] (wg 16 LM ca ad σ) (fun u => ∃ h, stR σ 8 h = u ∧ RG h ∧ SHP n kd (σ.2.1 7) h) (wg 16 LM ca ad) := by
  refine cv_in rc_M cd_M_findShapes 3 rfl rfl (by decide) (Nat.le_of_ble_eq_true rfl) (fun κ h1 h2 h3 hret => ?_)
  subst h1; subst h2; subst h3
  refine x_lv [(0, .ref (ad 0))] rfl ?_
  have hn := hT.1
  subst hn
  have n40 := T.2.1
  refine x_iconst dx_M_findShapes_0 ?_
  refine x_istore_n dx_M_findShapes_1 rfl (by decide) ?_
  refine x_w (w' := wg 16 LM κ.2.2.1.2.2 ad (stR σ 8 (σ.2.1 8))) (by rw [stR_self]) ?_
  refine x_lv [(0, .ref (ad 0)), (1, .int (zI 0))] rfl ?_
  refine x_loop (fun q : Int × (Int → Int) => X κ (rmk 1) rc_M cd_M_findShapes 3 (wg 16 LM κ.2.2.1.2.2 ad (stR σ 8 q.2)) 0 0 2 [(0, .ref (ad 0)), (1, .int (zI q.1))] []) (fun q => 0 ≤ q.1 ∧ q.1 ≤ σ.1 2 ∧ RG q.2 ∧ ∀ y, In q.1 y → SH1 (σ.1 2) kd (σ.2.1 7) (σ.1 2) (q.2 y) y) (fun q => (σ.1 2 - q.1).toNat) (fun q hi2 ih2 => ?_) (0, (σ.2.1 8)) ⟨Int.le_refl _, T.1, hs.2.1 8, fun y hy => by dsimp only at hy; omega⟩
  obtain ⟨x, h⟩ := q
  dsimp only at hi2 ⊢
  obtain ⟨x0, x1, rh, sh⟩ := hi2
  refine x_iload_n dx_M_findShapes_2 rfl rfl ?_
  refine x_aload_n dx_M_findShapes_3 rfl rfl ?_
  refine x_get fa_M_61 dx_M_findShapes_4 (by decide) rfl rfl ?_
  refine x_icmp_ge (tgt := 79) dx_M_findShapes_7 (by decide) ⟨by omega, by omega⟩ (hs.1 _) (fun h7 => ?_) (fun h7 => ?_)
  ·
    have h7 : σ.1 2 ≤ x := h7
    have e : x = σ.1 2 := Int.le_antisymm x1 h7
    subst e
    exact hret _ _ _ ⟨h, rfl, rh, sh⟩ dx_M_findShapes_79
  ·
    have h7 : x < σ.1 2 := h7
    refine x_aload_n dx_M_findShapes_10 rfl rfl ?_
    refine x_get fa_M_31 dx_M_findShapes_11 (by decide) rfl rfl ?_
    refine x_iload_n dx_M_findShapes_14 rfl rfl ?_
    refine x_iconst dx_M_findShapes_15 ?_
    refine x_iast dx_M_findShapes_16 (by decide) rfl (by omega) (by omega) (by decide) ?_
    refine x_iconst dx_M_findShapes_17 ?_
    refine x_istore_n dx_M_findShapes_18 rfl (by decide) ?_
    refine x_w (congrArg (wg 16 LM κ.2.2.1.2.2 ad) (stF_stR σ 8 h x (-1))) ?_
    refine x_lv [(0, .ref (ad 0)), (1, .int (zI x)), (2, .int (zI 0))] rfl ?_
    refine x_loop (fun p : Int × (Int → Int) => X κ (rmk 1) rc_M cd_M_findShapes 3 (wg 16 LM κ.2.2.1.2.2 ad (stR σ 8 p.2)) 0 0 19 [(0, .ref (ad 0)), (1, .int (zI x)), (2, .int (zI p.1))] []) (fun p => 0 ≤ p.1 ∧ p.1 ≤ σ.1 2 ∧ RG p.2 ∧ (∀ y, In x y → SH1 (σ.1 2) kd (σ.2.1 7) (σ.1 2) (p.2 y) y) ∧ SH1 (σ.1 2) kd (σ.2.1 7) p.1 (p.2 x) x) (fun p => (σ.1 2 - p.1).toNat) (fun p hi19 ih19 => ?_) (0, (ui h x (-1))) ⟨Int.le_refl _, T.1, ui_rg rh ⟨by decide, by decide⟩, fun y hy => by dsimp only; rw [ui_ne _ _ (by omega)]; exact sh y hy, Or.inl ⟨ui_at _ _ _, fun t ht => by dsimp only at ht; omega⟩⟩
    obtain ⟨t, h'⟩ := p
    dsimp only at hi19 ⊢
    obtain ⟨t0, t1, rh2, sh2, sx⟩ := hi19
    refine x_iload_n dx_M_findShapes_19 rfl rfl ?_
    refine x_aload_n dx_M_findShapes_20 rfl rfl ?_
    refine x_get fa_M_61 dx_M_findShapes_21 (by decide) rfl rfl ?_
    refine x_icmp_ge (tgt := 73) dx_M_findShapes_24 (by decide) ⟨by omega, by omega⟩ (hs.1 _) (fun h24 => ?_) (fun h24 => ?_)
    ·
      have h24 : σ.1 2 ≤ t := h24
      refine x_iinc dx_M_findShapes_73 rfl (by decide) ?_
      refine x_goto (tgt := 2) dx_M_findShapes_76 (by decide) ?_
      have e : t = σ.1 2 := Int.le_antisymm t1 h24
      refine x_lv [(0, .ref (ad 0)), (1, .int (zI (x + 1)))] rfl ?_
      exact ih2 ((x + 1), h') ⟨by dsimp only; omega, by dsimp only; omega, rh2, fun y hy => by
                                                            dsimp only at hy ⊢
                                                            by_cases c : y = x
                                                            · have w := sx; rw [e] at w; rw [c]; exact w
                                                            · exact sh2 y ⟨hy.1, by omega⟩⟩ (by dsimp only; omega)
    ·
      have h24 : t < σ.1 2 := h24
      have it : In (σ.1 2) t := ⟨t0, h24⟩
      refine x_aload_n dx_M_findShapes_27 rfl rfl ?_
      refine x_get fa_M_31 dx_M_findShapes_28 (by decide) rfl rfl ?_
      refine x_iload_n dx_M_findShapes_31 rfl rfl ?_
      refine x_aload_n dx_M_findShapes_32 rfl rfl ?_
      refine x_get fa_M_28 dx_M_findShapes_33 (by decide) rfl rfl ?_
      refine x_iload_n dx_M_findShapes_36 rfl rfl ?_
      refine x_iald dx_M_findShapes_37 (by decide) rfl (by omega) (by omega) (by decide) ?_
      refine x_aload_n dx_M_findShapes_38 rfl rfl ?_
      refine x_get fa_M_28 dx_M_findShapes_39 (by decide) rfl rfl ?_
      refine x_iload_n dx_M_findShapes_42 rfl rfl ?_
      refine x_iald dx_M_findShapes_43 (by decide) rfl (by omega) (by omega) (by decide) ?_
      refine x_icmp_ne (tgt := 60) dx_M_findShapes_44 (by decide) (hs.2.1 7 t) (hs.2.1 7 x) (fun h44 => ?_) (fun h44 => ?_)
      ·
        have h44 : σ.2.1 7 t ≠ σ.2.1 7 x := h44
        have K7 : σ.2.1 7 t = σ.2.1 7 x → kd t = -1 := fun q => absurd q h44
        refine x_aload_n dx_M_findShapes_60 rfl rfl ?_
        refine x_get fa_M_31 dx_M_findShapes_61 (by decide) rfl rfl ?_
        refine x_iload_n dx_M_findShapes_64 rfl rfl ?_
        refine x_iald dx_M_findShapes_65 (by decide) rfl (by omega) (by omega) (by decide) ?_
        refine x_iast dx_M_findShapes_66 (by decide) rfl (by omega) (by omega) (by decide) ?_
        refine x_iinc dx_M_findShapes_67 rfl (by decide) ?_
        refine x_goto (tgt := 19) dx_M_findShapes_70 (by decide) ?_
        first
          | refine x_w (congrArg (wg 16 LM κ.2.2.1.2.2 ad) (stF_stR σ 8 h' x t)) ?_
          | refine x_w (congrArg (wg 16 LM κ.2.2.1.2.2 ad) ((stF_stR σ 8 h' x _).trans (by rw [stR_at, ui_self]))) ?_
        first
          | (refine x_lv [(0, .ref (ad 0)), (1, .int (zI x)), (2, .int (zI (t + 1)))] rfl ?_; exact ih19 ((t + 1), (ui h' x t)) ⟨by dsimp only; omega, by dsimp only; omega, ui_rg rh2 ⟨by omega, by omega⟩, fun y hy => by dsimp only; rw [ui_ne _ _ (by omega)]; exact sh2 y hy, by dsimp only; rw [ui_at]; exact Or.inr ⟨it, h44, kt⟩⟩ (by dsimp only; omega))
          | (refine x_lv [(0, .ref (ad 0)), (1, .int (zI x)), (2, .int (zI (t + 1)))] rfl ?_; exact ih19 ((t + 1), h') ⟨by dsimp only; omega, by dsimp only; omega, rh2, sh2, sh_no sx K7⟩ (by dsimp only; omega))
      ·
        have h44 : σ.2.1 7 t = σ.2.1 7 x := h44
        refine x_aload_n dx_M_findShapes_47 rfl rfl ?_
        refine x_get fa_M_7 dx_M_findShapes_48 (by decide) rfl rfl ?_
        refine x_iload_n dx_M_findShapes_51 rfl rfl ?_
        refine x_iald dx_M_findShapes_52 (by decide) rfl (by omega) (by omega) (by decide) ?_
        refine x_if_lt (tgt := 60) dx_M_findShapes_53 (by decide) (hs.2.1 1 t) (fun h53 => ?_) (fun h53 => ?_)
        ·
          have K7 : σ.2.1 7 t = σ.2.1 7 x → kd t = -1 := fun _ => (rt_x T hT it).1.mp h53
          refine x_aload_n dx_M_findShapes_60 rfl rfl ?_
          refine x_get fa_M_31 dx_M_findShapes_61 (by decide) rfl rfl ?_
          refine x_iload_n dx_M_findShapes_64 rfl rfl ?_
          refine x_iald dx_M_findShapes_65 (by decide) rfl (by omega) (by omega) (by decide) ?_
          refine x_iast dx_M_findShapes_66 (by decide) rfl (by omega) (by omega) (by decide) ?_
          refine x_iinc dx_M_findShapes_67 rfl (by decide) ?_
          refine x_goto (tgt := 19) dx_M_findShapes_70 (by decide) ?_
          first
            | refine x_w (congrArg (wg 16 LM κ.2.2.1.2.2 ad) (stF_stR σ 8 h' x t)) ?_
            | refine x_w (congrArg (wg 16 LM κ.2.2.1.2.2 ad) ((stF_stR σ 8 h' x _).trans (by rw [stR_at, ui_self]))) ?_
          first
            | (refine x_lv [(0, .ref (ad 0)), (1, .int (zI x)), (2, .int (zI (t + 1)))] rfl ?_; exact ih19 ((t + 1), (ui h' x t)) ⟨by dsimp only; omega, by dsimp only; omega, ui_rg rh2 ⟨by omega, by omega⟩, fun y hy => by dsimp only; rw [ui_ne _ _ (by omega)]; exact sh2 y hy, by dsimp only; rw [ui_at]; exact Or.inr ⟨it, h44, kt⟩⟩ (by dsimp only; omega))
            | (refine x_lv [(0, .ref (ad 0)), (1, .int (zI x)), (2, .int (zI (t + 1)))] rfl ?_; exact ih19 ((t + 1), h') ⟨by dsimp only; omega, by dsimp only; omega, rh2, sh2, sh_no sx K7⟩ (by dsimp only; omega))
        ·
          have h53 : 0 ≤ σ.2.1 1 t := h53
          have kt : kd t ≠ -1 := fun q => by have := (rt_x T hT it).1.mpr q; omega
          refine x_iload_n dx_M_findShapes_56 rfl rfl ?_
          refine x_goto (tgt := 66) dx_M_findShapes_57 (by decide) ?_
          refine x_iast dx_M_findShapes_66 (by decide) rfl (by omega) (by omega) (by decide) ?_
          refine x_iinc dx_M_findShapes_67 rfl (by decide) ?_
          refine x_goto (tgt := 19) dx_M_findShapes_70 (by decide) ?_
          first
            | refine x_w (congrArg (wg 16 LM κ.2.2.1.2.2 ad) (stF_stR σ 8 h' x t)) ?_
            | refine x_w (congrArg (wg 16 LM κ.2.2.1.2.2 ad) ((stF_stR σ 8 h' x _).trans (by rw [stR_at, ui_self]))) ?_
          first
            | (refine x_lv [(0, .ref (ad 0)), (1, .int (zI x)), (2, .int (zI (t + 1)))] rfl ?_; exact ih19 ((t + 1), (ui h' x t)) ⟨by dsimp only; omega, by dsimp only; omega, ui_rg rh2 ⟨by omega, by omega⟩, fun y hy => by dsimp only; rw [ui_ne _ _ (by omega)]; exact sh2 y hy, by dsimp only; rw [ui_at]; exact Or.inr ⟨it, h44, kt⟩⟩ (by dsimp only; omega))
            | (refine x_lv [(0, .ref (ad 0)), (1, .int (zI x)), (2, .int (zI (t + 1)))] rfl ?_; exact ih19 ((t + 1), h') ⟨by dsimp only; omega, by dsimp only; omega, rh2, sh2, sh_no sx K7⟩ (by dsimp only; omega))
