set_option maxRecDepth 100000 in
set_option maxHeartbeats 4000000 in
theorem c_M_at {l : Launch} {D : va_G} {ca : Nat → ClassId} {ad : Nat → Nat} {σ : S0} {τ : S0} {s i : Int} (h : REL τ σ) (hs : Rg s) (hi : RgL i) : CI l mn_M_at kw_M_at (rmk 6) D ca [.ref (ad 0), .int (zI s), .long (zL i)] (wg 16 LM ca ad σ) (fun z u => REL τ u ∧ ((¬ In (τ.1 0) s ∧ u.1 0 = 1) ∨ (In (τ.1 0) s ∧ ¬ (0 ≤ i ∧ i < τ.2.2 17 (τ.2.1 11 s)) ∧ u.1 0 = 2) ∨ (In (τ.1 0) s ∧ (0 ≤ i ∧ i < τ.2.2 17 (τ.2.1 11 s)) ∧ u.1 0 = 0 ∧ wr τ (τ.2.1 11 s) i = z))) (wg 16 LM ca ad) := by
  refine ci_in rc_M cd_M_at 9 .int rfl rfl (by decide) (Nat.le_of_ble_eq_true rfl) (fun κ h1 h2 h3 hret => ?_)
  subst h1; subst h2; subst h3
  refine x_lv [(0, .ref (ad 0)), (1, .int (zI s)), (2, .long (zL i))] rfl ?_
  refine x_aload_n dx_M_at_0 rfl rfl ?_
  refine x_iload_n dx_M_at_1 rfl rfl ?_
  refine x_iload_n dx_M_at_2 rfl rfl ?_
  refine x_cvi2 (c_M_lacks (s := s) (t := s) h hs hs) cf_M_124 ⟨rfl, rfl, by decide, by decide⟩ ⟨Nat.zero_le _, Nat.zero_le _⟩ (wl_get (by decide)) rfl rfl (Nat.le_of_ble_eq_true rfl) dx_M_at_3 (fun z u hp => ?_)
  obtain ⟨h2, p2, hz⟩ := hp
  have n40 := h2.1.1.2.1.2.1
  refine x_if_eq (tgt := 11) dx_M_at_6 (by decide) (by rcases hz with q | q <;> exact ⟨by omega, by omega⟩) (fun h6 => ?_) (fun h6 => ?_)
  ·
    obtain ⟨-, g0, is, -⟩ := hz.resolve_right (fun q => by omega)
    obtain ⟨nv, hv, kn, alk⟩ := rel_nv h2 p2
    have ks := (kn s is).2.1
    refine x_aload_n dx_M_at_11 rfl rfl ?_
    refine x_lload_n dx_M_at_12 rfl rfl ?_
    refine x_lconst (z := 0) dx_M_at_13 (by decide) ?_
    refine x_lcmp dx_M_at_14 hi RgL_0 ?_
    refine x_tern 34 1 (fun v => (v = 2 ∧ ¬ (0 ≤ i ∧ i < u.2.2 9 s)) ∨ (v = 0 ∧ (0 ≤ i ∧ i < u.2.2 9 s))) (fun v15 hv15 => ?_) (fun jn15 => ?_)
    ·
      refine x_put fp_M_57 jo_code dx_M_at_34 (by decide) rfl rfl ?_
      refine x_aload_n dx_M_at_37 rfl rfl ?_
      refine x_get fa_M_57 dx_M_at_38 (by decide) rfl rfl ?_
      refine x_if_le (tgt := 46) dx_M_at_41 (by decide) (show Rg v15 from ⟨by omega, by omega⟩) (fun h41 => ?_) (fun h41 => ?_)
      ·
        have h41 : v15 ≤ 0 := h41
        obtain ⟨e0, gi⟩ := hv15.resolve_left (fun q => by omega)
        subst e0
        rw [ks] at gi
        have RW := rel_0 (v := 0) h2 ⟨by decide, by decide⟩
        refine x_iload_n dx_M_at_46 rfl rfl ?_
        refine x_istore dx_M_at_47 (by decide) ?_
        refine x_lload_n dx_M_at_49 rfl rfl ?_
        refine x_lstore dx_M_at_50 (by decide) ?_
        refine x_lv [(0, .ref (ad 0)), (4, .int (zI s)), (5, .long (zL i))] rfl ?_
        refine x_loop (fun q : Int × Int => X κ (rmk 6) rc_M cd_M_at 9 (wg 16 LM κ.2.2.1.2.2 ad (stI u 0 0)) 0 0 52 [(0, .ref (ad 0)), (4, .int (zI q.1)), (5, .long (zL q.2))] []) (fun q => In (τ.1 0) q.1 ∧ 0 ≤ q.2 ∧ q.2 < τ.2.2 17 (τ.2.1 11 q.1) ∧ wr τ (τ.2.1 11 q.1) q.2 = wr τ (τ.2.1 11 s) i) (fun q => (τ.2.1 11 q.1).toNat) (fun q hi52 ih52 => ?_) (s, i) ⟨is, gi.1, gi.2, rfl⟩
        obtain ⟨x, r⟩ := q
        dsimp only at hi52 ⊢
        obtain ⟨ix, hr1, hr2, hr3⟩ := hi52
        have rb := vt_lt40 h2.1.2.1 h2.1.2.2.2.1 (kn x ix).1
        refine x_lload dx_M_at_52 rfl ?_
        refine x_lconst (z := 0) dx_M_at_54 (by decide) ?_
        refine x_lcmp dx_M_at_55 ⟨by omega, by omega⟩ RgL_0 ?_
        refine x_if_le (tgt := 153) dx_M_at_56 (by decide) (zc_rg _ _) (fun h56 => ?_) (fun h56 => ?_)
        ·
          have e56 := zc_le0 h56
          have r0 : r = 0 := by omega
          rw [r0, wr_0] at hr3
          refine x_aload_n dx_M_at_153 rfl rfl ?_
          refine x_get fa_M_31 dx_M_at_154 (by decide) rfl rfl ?_
          refine x_iload dx_M_at_157 rfl ?_
          refine x_iald dx_M_at_159 (by decide) rfl (by omega) (by omega) (by decide) ?_
          refine x_istore dx_M_at_160 (by decide) ?_
          refine x_iload dx_M_at_162 rfl ?_
          refine x_if_ge (tgt := 179) dx_M_at_164 (by decide) (h2.2.1.2.1 8 x) (fun h164 => ?_) (fun h164 => ?_)
          ·
            have h164 : 0 ≤ u.2.1 8 x := h164
            obtain ⟨l1, l2⟩ := (at_leaf h2 p2 ix).resolve_left (fun q => by omega)
            refine x_iconst dx_M_at_179 ?_
            refine x_aload_n dx_M_at_180 rfl rfl ?_
            refine x_get fa_M_7 dx_M_at_181 (by decide) rfl rfl ?_
            refine x_iload dx_M_at_184 rfl ?_
            refine x_iald dx_M_at_186 (by decide) rfl (show 0 ≤ u.2.1 8 x by omega) (show u.2.1 8 x < ((40 : Nat) : Int) by omega) (by decide) ?_
            refine x_imul dx_M_at_187 ?_
            refine x_aload_n dx_M_at_188 rfl rfl ?_
            refine x_get fa_M_13 dx_M_at_189 (by decide) rfl rfl ?_
            refine x_iload dx_M_at_192 rfl ?_
            refine x_iald dx_M_at_194 (by decide) rfl (show 0 ≤ u.2.1 8 x by omega) (show u.2.1 8 x < ((40 : Nat) : Int) by omega) (by decide) ?_
            refine x_iadd dx_M_at_195 ?_
            exact hret _ _ _ _ ⟨RW, Or.inr (Or.inr ⟨is, gi, rfl, hr3.symm.trans l2.symm⟩)⟩ rfl dx_M_at_196
          ·
            have h164 : u.2.1 8 x < 0 := h164
            obtain ⟨l1, l2⟩ := (at_leaf h2 p2 ix).resolve_right (fun q => by omega)
            refine x_iconst dx_M_at_167 ?_
            refine x_aload_n dx_M_at_168 rfl rfl ?_
            refine x_get fa_M_28 dx_M_at_169 (by decide) rfl rfl ?_
            refine x_iload dx_M_at_172 rfl ?_
            refine x_iald dx_M_at_174 (by decide) rfl (by omega) (by omega) (by decide) ?_
            refine x_isub dx_M_at_175 ?_
            refine x_goto (tgt := 196) dx_M_at_176 (by decide) ?_
            exact hret _ _ _ _ ⟨RW, Or.inr (Or.inr ⟨is, gi, rfl, hr3.symm.trans l2.symm⟩)⟩ rfl dx_M_at_196
        ·
          have e56 := zc_gt0 h56
          obtain ⟨k1, k2, k3, k4, k5, k6⟩ := at_step h2 p2 ix e56 hr2
          refine x_aload_n dx_M_at_59 rfl rfl ?_
          refine x_get fa_M_31 dx_M_at_60 (by decide) rfl rfl ?_
          refine x_iload dx_M_at_63 rfl ?_
          refine x_iald dx_M_at_65 (by decide) rfl (by omega) (by omega) (by decide) ?_
          refine x_istore dx_M_at_66 (by decide) ?_
          refine x_lload dx_M_at_68 rfl ?_
          refine x_lconst (z := 1) dx_M_at_70 (by decide) ?_
          refine x_lsub dx_M_at_71 ?_
          refine x_aload_n dx_M_at_72 rfl rfl ?_
          refine x_get fa_M_34 dx_M_at_73 (by decide) rfl rfl ?_
          refine x_aload_n dx_M_at_76 rfl rfl ?_
          refine x_get fa_M_16 dx_M_at_77 (by decide) rfl rfl ?_
          refine x_iload dx_M_at_80 rfl ?_
          refine x_iald dx_M_at_82 (by decide) rfl (show 0 ≤ u.2.1 8 x by omega) (show u.2.1 8 x < ((40 : Nat) : Int) by omega) (by decide) ?_
          refine x_lald dx_M_at_83 (by decide) rfl (show 0 ≤ u.2.1 3 (u.2.1 8 x) by omega) (show u.2.1 3 (u.2.1 8 x) < ((40 : Nat) : Int) by omega) (by decide) ?_
          refine x_lcmp dx_M_at_84 ⟨by omega, by omega⟩ (h2.2.1.2.2 9 _ (by decide)) ?_
          refine x_tern 93 1 (fun v => v = bz (r - 1 < u.2.2 9 (u.2.1 3 (u.2.1 8 x)))) (fun v85 hv85 => ?_) (fun jn85 => ?_)
          ·
            subst hv85
            refine x_istore dx_M_at_93 (by decide) ?_
            refine x_iload dx_M_at_95 rfl ?_
            refine x_ifb_eq (tgt := 107) dx_M_at_97 (by decide) (fun h97 => ?_) (fun h97 => ?_)
            ·
              refine x_lload dx_M_at_107 rfl ?_
              refine x_lconst (z := 1) dx_M_at_109 (by decide) ?_
              refine x_lsub dx_M_at_110 ?_
              refine x_aload_n dx_M_at_111 rfl rfl ?_
              refine x_get fa_M_34 dx_M_at_112 (by decide) rfl rfl ?_
              refine x_aload_n dx_M_at_115 rfl rfl ?_
              refine x_get fa_M_16 dx_M_at_116 (by decide) rfl rfl ?_
              refine x_iload dx_M_at_119 rfl ?_
              refine x_iald dx_M_at_121 (by decide) rfl (show 0 ≤ u.2.1 8 x by omega) (show u.2.1 8 x < ((40 : Nat) : Int) by omega) (by decide) ?_
              refine x_lald dx_M_at_122 (by decide) rfl (show 0 ≤ u.2.1 3 (u.2.1 8 x) by omega) (show u.2.1 3 (u.2.1 8 x) < ((40 : Nat) : Int) by omega) (by decide) ?_
              refine x_lsub dx_M_at_123 ?_
              refine x_lstore dx_M_at_124 (by decide) ?_
              refine x_iload dx_M_at_126 rfl ?_
              refine x_ifb_eq (tgt := 141) dx_M_at_128 (by decide) (fun h128 => ?_) (fun h128 => ?_)
              ·
                refine x_aload_n dx_M_at_141 rfl rfl ?_
                refine x_get fa_M_19 dx_M_at_142 (by decide) rfl rfl ?_
                refine x_iload dx_M_at_145 rfl ?_
                refine x_iald dx_M_at_147 (by decide) rfl (show 0 ≤ u.2.1 8 x by omega) (show u.2.1 8 x < ((40 : Nat) : Int) by omega) (by decide) ?_
                refine x_istore dx_M_at_148 (by decide) ?_
                refine x_goto (tgt := 52) dx_M_at_150 (by decide) ?_
                first
                  | (refine x_lv [(0, .ref (ad 0)), (4, .int (zI (u.2.1 3 (u.2.1 8 x)))), (5, .long (zL (r - 1)))] rfl ?_; exact ih52 ((u.2.1 3 (u.2.1 8 x)), (r - 1)) ⟨by dsimp only; rw [k3]; exact k2, by dsimp only; omega, by dsimp only; rw [k3]; rw [k3] at h97; exact (k5 h97).1, by dsimp only; rw [k3]; rw [k3] at h97; rw [← (k5 h97).2.1]; exact hr3⟩ (by dsimp only; rw [k3]; rw [k3] at h97; exact (k5 h97).2.2))
                  | (refine x_lv [(0, .ref (ad 0)), (4, .int (zI (u.2.1 4 (u.2.1 8 x)))), (5, .long (zL (r - 1 - u.2.2 9 (u.2.1 3 (u.2.1 8 x)))))] rfl ?_; exact ih52 ((u.2.1 4 (u.2.1 8 x)), (r - 1 - u.2.2 9 (u.2.1 3 (u.2.1 8 x)))) ⟨by dsimp only; rw [k4]; rw [k3] at h97; exact (k6 h97).1, by dsimp only; rw [k3] at h97 ⊢; exact (k6 h97).2.1, by dsimp only; rw [k3] at h97 ⊢; rw [k4]; exact (k6 h97).2.2.1, by dsimp only; rw [k3] at h97 ⊢; rw [k4, ← (k6 h97).2.2.2.1]; exact hr3⟩ (by dsimp only; rw [k4]; rw [k3] at h97; exact (k6 h97).2.2.2.2))
                  | exact absurd h97 h128
                  | exact absurd h128 h97
              ·
                refine x_aload_n dx_M_at_131 rfl rfl ?_
                refine x_get fa_M_16 dx_M_at_132 (by decide) rfl rfl ?_
                refine x_iload dx_M_at_135 rfl ?_
                refine x_iald dx_M_at_137 (by decide) rfl (show 0 ≤ u.2.1 8 x by omega) (show u.2.1 8 x < ((40 : Nat) : Int) by omega) (by decide) ?_
                refine x_goto (tgt := 148) dx_M_at_138 (by decide) ?_
                refine x_istore dx_M_at_148 (by decide) ?_
                refine x_goto (tgt := 52) dx_M_at_150 (by decide) ?_
                first
                  | (refine x_lv [(0, .ref (ad 0)), (4, .int (zI (u.2.1 3 (u.2.1 8 x)))), (5, .long (zL (r - 1)))] rfl ?_; exact ih52 ((u.2.1 3 (u.2.1 8 x)), (r - 1)) ⟨by dsimp only; rw [k3]; exact k2, by dsimp only; omega, by dsimp only; rw [k3]; rw [k3] at h97; exact (k5 h97).1, by dsimp only; rw [k3]; rw [k3] at h97; rw [← (k5 h97).2.1]; exact hr3⟩ (by dsimp only; rw [k3]; rw [k3] at h97; exact (k5 h97).2.2))
                  | (refine x_lv [(0, .ref (ad 0)), (4, .int (zI (u.2.1 4 (u.2.1 8 x)))), (5, .long (zL (r - 1 - u.2.2 9 (u.2.1 3 (u.2.1 8 x)))))] rfl ?_; exact ih52 ((u.2.1 4 (u.2.1 8 x)), (r - 1 - u.2.2 9 (u.2.1 3 (u.2.1 8 x)))) ⟨by dsimp only; rw [k4]; rw [k3] at h97; exact (k6 h97).1, by dsimp only; rw [k3] at h97 ⊢; exact (k6 h97).2.1, by dsimp only; rw [k3] at h97 ⊢; rw [k4]; exact (k6 h97).2.2.1, by dsimp only; rw [k3] at h97 ⊢; rw [k4, ← (k6 h97).2.2.2.1]; exact hr3⟩ (by dsimp only; rw [k4]; rw [k3] at h97; exact (k6 h97).2.2.2.2))
                  | exact absurd h97 h128
                  | exact absurd h128 h97
            ·
              refine x_lload dx_M_at_100 rfl ?_
              refine x_lconst (z := 1) dx_M_at_102 (by decide) ?_
              refine x_lsub dx_M_at_103 ?_
              refine x_goto (tgt := 124) dx_M_at_104 (by decide) ?_
              refine x_lstore dx_M_at_124 (by decide) ?_
              refine x_iload dx_M_at_126 rfl ?_
              refine x_ifb_eq (tgt := 141) dx_M_at_128 (by decide) (fun h128 => ?_) (fun h128 => ?_)
              ·
                refine x_aload_n dx_M_at_141 rfl rfl ?_
                refine x_get fa_M_19 dx_M_at_142 (by decide) rfl rfl ?_
                refine x_iload dx_M_at_145 rfl ?_
                refine x_iald dx_M_at_147 (by decide) rfl (show 0 ≤ u.2.1 8 x by omega) (show u.2.1 8 x < ((40 : Nat) : Int) by omega) (by decide) ?_
                refine x_istore dx_M_at_148 (by decide) ?_
                refine x_goto (tgt := 52) dx_M_at_150 (by decide) ?_
                first
                  | (refine x_lv [(0, .ref (ad 0)), (4, .int (zI (u.2.1 3 (u.2.1 8 x)))), (5, .long (zL (r - 1)))] rfl ?_; exact ih52 ((u.2.1 3 (u.2.1 8 x)), (r - 1)) ⟨by dsimp only; rw [k3]; exact k2, by dsimp only; omega, by dsimp only; rw [k3]; rw [k3] at h97; exact (k5 h97).1, by dsimp only; rw [k3]; rw [k3] at h97; rw [← (k5 h97).2.1]; exact hr3⟩ (by dsimp only; rw [k3]; rw [k3] at h97; exact (k5 h97).2.2))
                  | (refine x_lv [(0, .ref (ad 0)), (4, .int (zI (u.2.1 4 (u.2.1 8 x)))), (5, .long (zL (r - 1 - u.2.2 9 (u.2.1 3 (u.2.1 8 x)))))] rfl ?_; exact ih52 ((u.2.1 4 (u.2.1 8 x)), (r - 1 - u.2.2 9 (u.2.1 3 (u.2.1 8 x)))) ⟨by dsimp only; rw [k4]; rw [k3] at h97; exact (k6 h97).1, by dsimp only; rw [k3] at h97 ⊢; exact (k6 h97).2.1, by dsimp only; rw [k3] at h97 ⊢; rw [k4]; exact (k6 h97).2.2.1, by dsimp only; rw [k3] at h97 ⊢; rw [k4, ← (k6 h97).2.2.2.1]; exact hr3⟩ (by dsimp only; rw [k4]; rw [k3] at h97; exact (k6 h97).2.2.2.2))
                  | exact absurd h97 h128
                  | exact absurd h128 h97
              ·
                refine x_aload_n dx_M_at_131 rfl rfl ?_
                refine x_get fa_M_16 dx_M_at_132 (by decide) rfl rfl ?_
                refine x_iload dx_M_at_135 rfl ?_
                refine x_iald dx_M_at_137 (by decide) rfl (show 0 ≤ u.2.1 8 x by omega) (show u.2.1 8 x < ((40 : Nat) : Int) by omega) (by decide) ?_
                refine x_goto (tgt := 148) dx_M_at_138 (by decide) ?_
                refine x_istore dx_M_at_148 (by decide) ?_
                refine x_goto (tgt := 52) dx_M_at_150 (by decide) ?_
                first
                  | (refine x_lv [(0, .ref (ad 0)), (4, .int (zI (u.2.1 3 (u.2.1 8 x)))), (5, .long (zL (r - 1)))] rfl ?_; exact ih52 ((u.2.1 3 (u.2.1 8 x)), (r - 1)) ⟨by dsimp only; rw [k3]; exact k2, by dsimp only; omega, by dsimp only; rw [k3]; rw [k3] at h97; exact (k5 h97).1, by dsimp only; rw [k3]; rw [k3] at h97; rw [← (k5 h97).2.1]; exact hr3⟩ (by dsimp only; rw [k3]; rw [k3] at h97; exact (k5 h97).2.2))
                  | (refine x_lv [(0, .ref (ad 0)), (4, .int (zI (u.2.1 4 (u.2.1 8 x)))), (5, .long (zL (r - 1 - u.2.2 9 (u.2.1 3 (u.2.1 8 x)))))] rfl ?_; exact ih52 ((u.2.1 4 (u.2.1 8 x)), (r - 1 - u.2.2 9 (u.2.1 3 (u.2.1 8 x)))) ⟨by dsimp only; rw [k4]; rw [k3] at h97; exact (k6 h97).1, by dsimp only; rw [k3] at h97 ⊢; exact (k6 h97).2.1, by dsimp only; rw [k3] at h97 ⊢; rw [k4]; exact (k6 h97).2.2.1, by dsimp only; rw [k3] at h97 ⊢; rw [k4, ← (k6 h97).2.2.2.1]; exact hr3⟩ (by dsimp only; rw [k4]; rw [k3] at h97; exact (k6 h97).2.2.2.2))
                  | exact absurd h97 h128
                  | exact absurd h128 h97
          ·
            refine x_if_ge (tgt := 92) dx_M_at_85 (by decide) (zc_rg _ _) (fun h85 => ?_) (fun h85 => ?_)
            ·
              have e85 := zc_ge0 h85
              refine x_iconst dx_M_at_92 ?_
              first
                | exact jn85 _ (bz_f (fun q => by have e85 : u.2.2 9 (u.2.1 3 (u.2.1 8 x)) ≤ r - 1 := e85; omega)).symm
                | exact jn85 _ (bz_t e85).symm
            ·
              have e85 := zc_lt0 h85
              refine x_iconst dx_M_at_88 ?_
              refine x_goto (tgt := 93) dx_M_at_89 (by decide) ?_
              first
                | exact jn85 _ (bz_f (fun q => by have e85 : u.2.2 9 (u.2.1 3 (u.2.1 8 x)) ≤ r - 1 := e85; omega)).symm
                | exact jn85 _ (bz_t e85).symm
      ·
        have h41 : 0 < v15 := h41
        obtain ⟨e0, gi⟩ := hv15.resolve_right (fun q => by omega)
        subst e0
        rw [ks] at gi
        have RW := rel_0 (v := 2) h2 ⟨by decide, by decide⟩
        refine x_iconst dx_M_at_44 ?_
        exact hret _ _ _ _ ⟨RW, Or.inr (Or.inl ⟨is, gi, rfl⟩)⟩ rfl dx_M_at_45
    ·
      refine x_if_lt (tgt := 29) dx_M_at_15 (by decide) (zc_rg _ _) (fun h15 => ?_) (fun h15 => ?_)
      ·
        have e15 := zc_lt0 h15
        refine x_iconst dx_M_at_29 ?_
        refine x_goto (tgt := 34) dx_M_at_30 (by decide) ?_
        first
          | exact jn15 _ (Or.inl ⟨rfl, by omega⟩)
          | exact jn15 _ (Or.inr ⟨rfl, by omega⟩)
      ·
        have e15 := zc_ge0 h15
        refine x_lload_n dx_M_at_18 rfl rfl ?_
        refine x_aload_n dx_M_at_19 rfl rfl ?_
        refine x_get fa_M_34 dx_M_at_20 (by decide) rfl rfl ?_
        refine x_iload_n dx_M_at_23 rfl rfl ?_
        refine x_lald dx_M_at_24 (by decide) rfl (by omega) (by omega) (by decide) ?_
        refine x_lcmp dx_M_at_25 hi (h2.2.1.2.2 9 s (by decide)) ?_
        refine x_if_lt (tgt := 33) dx_M_at_26 (by decide) (zc_rg _ _) (fun h26 => ?_) (fun h26 => ?_)
        ·
          have e26 := zc_lt0 h26
          refine x_iconst dx_M_at_33 ?_
          first
            | exact jn15 _ (Or.inl ⟨rfl, by omega⟩)
            | exact jn15 _ (Or.inr ⟨rfl, by omega⟩)
        ·
          have e26 := zc_ge0 h26
          refine x_iconst dx_M_at_29 ?_
          refine x_goto (tgt := 34) dx_M_at_30 (by decide) ?_
          first
            | exact jn15 _ (Or.inl ⟨rfl, by omega⟩)
            | exact jn15 _ (Or.inr ⟨rfl, by omega⟩)
  ·
    obtain ⟨-, g0, ng⟩ := hz.resolve_left (fun q => by omega)
    have ng : ¬ In (τ.1 0) s := fun q => ng ⟨q, q⟩
    refine x_iconst dx_M_at_9 ?_
    exact hret _ _ _ _ ⟨h2, Or.inl ⟨ng, g0⟩⟩ rfl dx_M_at_10
set_option maxRecDepth 100000 in
set_option maxHeartbeats 4000000 in
theorem c_M_unify {l : Launch} {D : va_G} {ca : Nat → ClassId} {ad : Nat → Nat} {σ : S0} {τ τ' : S0} {s t : Int} (h : REL τ σ) (hs : Rg s) (ht : Rg t) (hU : (In (τ.1 0) s ∧ In (τ.1 0) t) → τ.1 2 < 20 → UOK τ τ' (ui (σ.2.1 5) (σ.1 3) s) (ui (σ.2.1 6) (σ.1 3) t)) : CI l mn_M_unify kw_M_unify (rmk 5) D ca [.ref (ad 0), .int (zI s), .int (zI t)] (wg 16 LM ca ad σ) (fun z u => (¬ (In (τ.1 0) s ∧ In (τ.1 0) t) ∧ stI (stI σ 1 3) 0 1 = u) ∨ ((In (τ.1 0) s ∧ In (τ.1 0) t) ∧ 20 ≤ τ.1 2 ∧ stI (stI σ 1 0) 0 2 = u) ∨ ((In (τ.1 0) s ∧ In (τ.1 0) t) ∧ τ.1 2 < 20 ∧ REL τ' u ∧ ((τ'.1 2 = τ.1 2 + 1 ∧ u.1 0 = 0 ∧ τ.1 4 - τ'.1 4 = z) ∨ (τ'.1 2 = τ.1 2 ∧ u.1 0 = 2)))) (wg 16 LM ca ad) := by
  refine ci_in rc_M cd_M_unify 5 .int rfl rfl (by decide) (Nat.le_of_ble_eq_true rfl) (fun κ h1 h2 h3 hret => ?_)
  subst h1; subst h2; subst h3
  refine x_lv [(0, .ref (ad 0)), (1, .int (zI s)), (2, .int (zI t))] rfl ?_
  have e : σ.1 2 = τ.1 0 := h.2.2.1.1
  have e3 : σ.1 3 = τ.1 2 := h.2.2.2.1
  have hs0 := h.2.1
  have hT0 := h.1.1.2.1
  have E0 := h.1.1.2.2.1
  have E20 := h.1.1.2.2.2.1
  refine x_aload_n dx_M_unify_0 rfl rfl ?_
  refine x_iload_n dx_M_unify_1 rfl rfl ?_
  refine x_cvi1 (c_M_isNode hs0 hs) cf_M_72 ⟨rfl, rfl, by decide, by decide⟩ ⟨Nat.zero_le _, Nat.zero_le _⟩ (wl_get (by decide)) rfl rfl (Nat.le_of_ble_eq_true rfl) dx_M_unify_2 (fun z u hp => ?_)
  obtain ⟨rfl, rfl⟩ := hp
  refine x_tern 21 1 (fun v => (v = 0 ∧ ¬ (In (τ.1 0) s ∧ In (τ.1 0) t)) ∨ (v = 1 ∧ (In (τ.1 0) s ∧ In (τ.1 0) t))) (fun v5 hv5 => ?_) (fun jn5 => ?_)
  ·
    refine x_istore_n dx_M_unify_21 rfl (by decide) ?_
    refine x_aload_n dx_M_unify_22 rfl rfl ?_
    refine x_iload_n dx_M_unify_23 rfl rfl ?_
    refine x_tern 32 1 (fun v => (v = 3 ∧ v5 = 0) ∨ (v = 0 ∧ v5 = 1)) (fun v24 hv24 => ?_) (fun jn24 => ?_)
    ·
      refine x_put fp_M_115 jo_why dx_M_unify_32 (by decide) rfl rfl ?_
      refine x_aload_n dx_M_unify_35 rfl rfl ?_
      refine x_iload_n dx_M_unify_36 rfl rfl ?_
      refine x_tern 58 1 (fun v => (v = 1 ∧ v5 = 0) ∨ (v = 2 ∧ v5 = 1 ∧ σ.1 3 = 20) ∨ (v = 0 ∧ v5 = 1 ∧ σ.1 3 ≠ 20)) (fun v37 hv37 => ?_) (fun jn37 => ?_)
      ·
        refine x_put fp_M_57 jo_code dx_M_unify_58 (by decide) rfl rfl ?_
        refine x_aload_n dx_M_unify_61 rfl rfl ?_
        refine x_get fa_M_57 dx_M_unify_62 (by decide) rfl rfl ?_
        refine x_if_le (tgt := 70) dx_M_unify_65 (by decide) (show Rg v37 from ⟨by omega, by omega⟩) (fun h65 => ?_) (fun h65 => ?_)
        ·
          have h65 : v37 ≤ 0 := h65
          have q37 : v37 = 0 ∧ v24 = 0 ∧ v5 = 1 ∧ σ.1 3 ≠ 20 := by omega
          obtain ⟨rfl, rfl, q5, qE⟩ := q37
          obtain ⟨is, it⟩ := (hv5.resolve_left (fun q => by omega)).2
          have e20 : τ.1 2 < 20 := by omega
          refine x_aload_n dx_M_unify_70 rfl rfl ?_
          refine x_cvv0 (c_prep (rel_why (v := 0) (w := 0) h ⟨by decide, by decide⟩ ⟨by decide, by decide⟩)) cf_M_118 ⟨rfl, rfl, by decide, by decide⟩ ⟨Nat.zero_le _, Nat.zero_le _⟩ (wl_get (by decide)) rfl rfl (Nat.le_of_ble_eq_true rfl) dx_M_unify_71 (fun u hp => ?_)
          obtain ⟨f1, f2, f3, f4⟩ := hp
          have h2 := rel_fpr (rel_why (v := 0) (w := 0) h ⟨by decide, by decide⟩ ⟨by decide, by decide⟩) f1 f2 f3 f4
          have c0 : u.1 0 = 0 := f1.1 0 (by decide)
          have c2 : u.1 2 = τ.1 0 := h2.2.2.1.1
          have c3 : u.1 3 = τ.1 2 := h2.2.2.2.1
          have hT := h2.1.1.2.1
          have c5 : u.2.1 5 = σ.2.1 5 := f1.2 5 (by decide)
          have c6 : u.2.1 6 = σ.2.1 6 := f1.2 6 (by decide)
          refine x_aload_n dx_M_unify_74 rfl rfl ?_
          refine x_cvi0 (c_M_free h2.2.1 (by rw [c2]; exact hT.1) (by rw [c2]; exact hT.2.1)) cf_M_121 ⟨rfl, rfl, by decide, by decide⟩ ⟨Nat.zero_le _, Nat.zero_le _⟩ (wl_get (by decide)) rfl rfl (Nat.le_of_ble_eq_true rfl) dx_M_unify_75 (fun z u9 hp => ?_)
          obtain ⟨hp1, rfl⟩ := hp
          rw [free_eq h2 f4] at hp1
          subst hp1
          have UO := hU ⟨is, it⟩ e20
          obtain ⟨row, w, val, H1, H2⟩ := un_pre (V := (stI (stI (stF (stF u 5 (u.1 3) s) 6 (u.1 3) t) 3 (u.1 3 + 1)) 4 0)) hT0 UO c2 (show u.1 3 + 1 = _ by rw [c3]) (show ui (u.2.1 5) (u.1 3) s = _ by rw [c5, c3, ← e3]) (show ui (u.2.1 6) (u.1 3) t = _ by rw [c6, c3, ← e3])
          refine x_istore dx_M_unify_78 (by decide) ?_
          refine x_aload_n dx_M_unify_80 rfl rfl ?_
          refine x_get fa_M_22 dx_M_unify_81 (by decide) rfl rfl ?_
          refine x_aload_n dx_M_unify_84 rfl rfl ?_
          refine x_get fa_M_87 dx_M_unify_85 (by decide) rfl rfl ?_
          refine x_iload_n dx_M_unify_88 rfl rfl ?_
          refine x_iast dx_M_unify_89 (by decide) rfl (show 0 ≤ u.1 3 by omega) (show u.1 3 < ((20 : Nat) : Int) by omega) (by decide) ?_
          refine x_aload_n dx_M_unify_90 rfl rfl ?_
          refine x_get fa_M_25 dx_M_unify_91 (by decide) rfl rfl ?_
          refine x_aload_n dx_M_unify_94 rfl rfl ?_
          refine x_get fa_M_87 dx_M_unify_95 (by decide) rfl rfl ?_
          refine x_iload_n dx_M_unify_98 rfl rfl ?_
          refine x_iast dx_M_unify_99 (by decide) rfl (show 0 ≤ u.1 3 by omega) (show u.1 3 < ((20 : Nat) : Int) by omega) (by decide) ?_
          refine x_aload_n dx_M_unify_100 rfl rfl ?_
          refine x_dup dx_M_unify_101 rfl ?_
          refine x_get fa_M_87 dx_M_unify_102 (by decide) rfl rfl ?_
          refine x_iconst dx_M_unify_105 ?_
          refine x_iadd dx_M_unify_106 ?_
          refine x_put fp_M_87 jo_equations dx_M_unify_107 (by decide) rfl rfl ?_
          refine x_aload_n dx_M_unify_110 rfl rfl ?_
          refine x_iconst dx_M_unify_111 ?_
          refine x_put fp_M_64 jo_ready dx_M_unify_112 (by decide) rfl rfl ?_
          have okV : Ok (stI (stI (stF (stF u 5 (u.1 3) s) 6 (u.1 3) t) 3 (u.1 3 + 1)) 4 0) := ok_stI (ok_stI (ok_stF (ok_stF h2.2.1 hs) ht) ⟨by omega, by omega⟩) ⟨by decide, by decide⟩
          have heV : ∀ i, 0 ≤ i → i < ((stI (stI (stF (stF u 5 (u.1 3) s) 6 (u.1 3) t) 3 (u.1 3 + 1)) 4 0)).1 3 → In (u.1 2) (ui (u.2.1 5) (u.1 3) s i) ∧ In (u.1 2) (ui (u.2.1 6) (u.1 3) t i) := fun i i0 i1 => by
            have i1 : i < u.1 3 + 1 := i1
            rw [c2]
            by_cases c : i = u.1 3
            · rw [c, ui_at, ui_at]; exact ⟨is, it⟩
            · rw [ui_ne _ _ c, ui_ne _ _ c]; exact h2.1.1.2.2.2.2.1 i i0 (show i < τ.1 2 by omega)
          refine x_aload_n dx_M_unify_115 rfl rfl ?_
          refine x_aload_n dx_M_unify_116 rfl rfl ?_
          refine x_cvi0 (c_M_solve (σ := (stI (stI (stF (stF u 5 (u.1 3) s) 6 (u.1 3) t) 3 (u.1 3 + 1)) 4 0)) (kd := τ.2.1 5) (fa := τ.2.1 6) (sa := τ.2.1 7) (row := row) (w := w) (val := val) okV (show Tb (u.1 2) _ _ _ by rw [c2]; exact hT0) (show RT (stI (stI (stF (stF u 5 (u.1 3) s) 6 (u.1 3) t) 3 (u.1 3 + 1)) 4 0) (u.1 2) _ _ _ from by rw [c2]; exact h2.2.2.1) (show 0 ≤ u.1 3 + 1 by omega) (show u.1 3 + 1 ≤ 20 by omega) heV H1) cf_M_100 ⟨rfl, rfl, by decide, by decide⟩ ⟨Nat.zero_le _, Nat.zero_le _⟩ (wl_get (by decide)) rfl rfl (Nat.le_of_ble_eq_true rfl) dx_M_unify_117 (fun z v hp => ?_)
          obtain ⟨fv, vo, hz⟩ := H2 z v hp
          have d1 : v.1 = ((stI (stI (stF (stF u 5 (u.1 3) s) 6 (u.1 3) t) 3 (u.1 3 + 1)) 4 0)).1 := fv.1
          have d5 : v.2.1 5 = (ui (σ.2.1 5) (σ.1 3) s) := (fv.2.1 5 (by decide)).trans (show ui (u.2.1 5) (u.1 3) s = _ by rw [c5, c3, ← e3])
          have d6 : v.2.1 6 = (ui (σ.2.1 6) (σ.1 3) t) := (fv.2.1 6 (by decide)).trans (show ui (u.2.1 6) (u.1 3) t = _ by rw [c6, c3, ← e3])
          have vT : RT v (τ.1 0) (τ.2.1 5) (τ.2.1 6) (τ.2.1 7) := rt_fs (σ := (stI (stI (stF (stF u 5 (u.1 3) s) 6 (u.1 3) t) 3 (u.1 3 + 1)) 4 0)) h2.2.2.1 fv
          have d0 : v.1 0 = 0 := by rw [d1]; exact c0
          have d2 : v.1 2 = τ.1 0 := vT.1
          have d3 : v.1 3 = τ.1 2 + 1 := by rw [d1, ← c3]; rfl
          have d4 : v.1 4 = 0 := by rw [d1]; rfl
          have zr : Rg z := by
            have q := UO.2.1.1.1.1 5
            rcases hz with q | q
            · exact ⟨by omega, by omega⟩
            · rw [q.2.2]; assumption
          refine x_put fp_M_115 jo_why dx_M_unify_120 (by decide) rfl rfl ?_
          refine x_aload_n dx_M_unify_123 rfl rfl ?_
          refine x_get fa_M_115 dx_M_unify_124 (by decide) rfl rfl ?_
          refine x_if_le (tgt := 147) dx_M_unify_127 (by decide) (show Rg z from zr) (fun h127 => ?_) (fun h127 => ?_)
          ·
            have h127 : z ≤ 0 := h127
            obtain ⟨y1, rfl, y2, y3, y4⟩ := hz.resolve_right (fun q => by omega)
            have K3 : REL τ' (stI v 1 0) := un_rel vT UO d5 d6 rfl (ok_stI vo zr) rfl (d3.trans y1.symm) y2.symm d4
            have K4 : sm (fun s => bz (((stI v 1 0).2.1 1 s < 0 ∧ (stI v 1 0).2.1 8 s < 0) ∧ (stI v 1 0).2.1 7 s = s)) ((stI v 1 0).1 2).toNat = τ'.1 4 := by
              have hI := UO.2.1
              obtain ⟨n0, n5, n6, n7⟩ := UO.1
              have y5 := y3.1
              rw [d2] at y5
              have hkv := (kv_vf hI.1.2.1 (inv_row hI.1).1 hI.2).2
              refine free_eq0 hI K3.2.2.1 ?_ hkv (fun x y hx hy => ?_)
              · rw [n0, n5, n6, n7]; exact y5
              · rw [(inv_row hI.1).2.1 x y hx hy]
                unfold cl
                rw [n0] at hx hy
                have y6 := y4 x y (show In (u.1 2) x by rw [c2]; exact hx) (show In (u.1 2) y by rw [c2]; exact hy)
                rw [n0, n5, n6, n7, y1]
                have ee : RR (stI (stI (stF (stF u 5 (u.1 3) s) 6 (u.1 3) t) 3 (u.1 3 + 1)) 4 0) (τ.2.1 5) (τ.2.1 6) (τ.2.1 7) = clo (τ.1 0) (τ.2.1 5) (τ.2.1 6) (τ.2.1 7) (ui (σ.2.1 5) (σ.1 3) s) (ui (σ.2.1 6) (σ.1 3) t) (τ.1 2 + 1) := by
                  show clo (u.1 2) _ _ _ (ui (u.2.1 5) (u.1 3) s) (ui (u.2.1 6) (u.1 3) t) (u.1 3 + 1) = _
                  rw [c2, c5, c6, c3, e3]
                rw [ee] at y6
                exact y6
            refine x_iload dx_M_unify_147 rfl ?_
            refine x_aload_n dx_M_unify_149 rfl rfl ?_
            refine x_cvi0 (c_M_free (σ := stI v 1 0) (ok_stI vo zr) (show 0 ≤ v.1 2 by rw [d2]; exact hT0.1) (show v.1 2 ≤ 40 by rw [d2]; exact hT0.2.1)) cf_M_121 ⟨rfl, rfl, by decide, by decide⟩ ⟨Nat.zero_le _, Nat.zero_le _⟩ (wl_get (by decide)) rfl rfl (Nat.le_of_ble_eq_true rfl) dx_M_unify_150 (fun z9 u9 hp => ?_)
            obtain ⟨hp1, rfl⟩ := hp
            rw [K4] at hp1
            subst hp1
            refine x_isub dx_M_unify_153 ?_
            exact hret _ _ _ _ (Or.inr (Or.inr ⟨⟨is, it⟩, e20, K3, Or.inl ⟨y1, d0, rfl⟩⟩)) rfl dx_M_unify_154
          ·
            have h127 : 0 < z := h127
            obtain ⟨y1, y2, y3⟩ := hz.resolve_left (fun q => by omega)
            have K3 : REL τ' (stI (stI (stI v 1 z) 3 (v.1 3 - 1)) 0 2) := un_rel vT UO d5 d6 rfl (ok_stI (ok_stI (ok_stI vo zr) ⟨by omega, by omega⟩) ⟨by decide, by decide⟩) rfl (show v.1 3 - 1 = _ by omega) y3 d4
            refine x_aload_n dx_M_unify_130 rfl rfl ?_
            refine x_dup dx_M_unify_131 rfl ?_
            refine x_get fa_M_87 dx_M_unify_132 (by decide) rfl rfl ?_
            refine x_iconst dx_M_unify_135 ?_
            refine x_isub dx_M_unify_136 ?_
            refine x_put fp_M_87 jo_equations dx_M_unify_137 (by decide) rfl rfl ?_
            refine x_aload_n dx_M_unify_140 rfl rfl ?_
            refine x_iconst dx_M_unify_141 ?_
            refine x_put fp_M_57 jo_code dx_M_unify_142 (by decide) rfl rfl ?_
            refine x_iconst dx_M_unify_145 ?_
            exact hret _ _ _ _ (Or.inr (Or.inr ⟨⟨is, it⟩, e20, K3, Or.inr ⟨y1, rfl⟩⟩)) rfl dx_M_unify_146
        ·
          have h65 : 0 < v37 := h65
          refine x_iconst dx_M_unify_68 ?_
          rcases hv37 with ⟨q1, q2⟩ | ⟨q1, q2, q3⟩ | ⟨q1, q2, q3⟩
          · have q4 : v24 = 3 := by omega
            subst q1; subst q4
            exact hret _ _ _ _ (Or.inl ⟨(hv5.resolve_right (fun q => by omega)).2, rfl⟩) rfl dx_M_unify_69
          · have q4 : v24 = 0 := by omega
            subst q1; subst q4
            exact hret _ _ _ _ (Or.inr (Or.inl ⟨(hv5.resolve_left (fun q => by omega)).2, by omega, rfl⟩)) rfl dx_M_unify_69
          · omega
      ·
        refine x_if_ne (tgt := 44) dx_M_unify_37 (by decide) ⟨by omega, by omega⟩ (fun h37 => ?_) (fun h37 => ?_)
        ·
          refine x_aload_n dx_M_unify_44 rfl rfl ?_
          refine x_get fa_M_87 dx_M_unify_45 (by decide) rfl rfl ?_
          refine x_bipush dx_M_unify_48 (by decide) ?_
          refine x_icmp_ne (tgt := 57) dx_M_unify_50 (by decide) (hs0.1 3) ⟨by decide, by decide⟩ (fun h50 => ?_) (fun h50 => ?_)
          ·
            refine x_iconst dx_M_unify_57 ?_
            first
              | exact jn37 _ (Or.inl ⟨rfl, by omega⟩)
              | exact jn37 _ (Or.inr (Or.inl ⟨rfl, by omega, h50⟩))
              | exact jn37 _ (Or.inr (Or.inr ⟨rfl, by omega, h50⟩))
          ·
            refine x_iconst dx_M_unify_53 ?_
            refine x_goto (tgt := 58) dx_M_unify_54 (by decide) ?_
            first
              | exact jn37 _ (Or.inl ⟨rfl, by omega⟩)
              | exact jn37 _ (Or.inr (Or.inl ⟨rfl, by omega, h50⟩))
              | exact jn37 _ (Or.inr (Or.inr ⟨rfl, by omega, h50⟩))
        ·
          refine x_iconst dx_M_unify_40 ?_
          refine x_goto (tgt := 58) dx_M_unify_41 (by decide) ?_
          first
            | exact jn37 _ (Or.inl ⟨rfl, by omega⟩)
            | exact jn37 _ (Or.inr (Or.inl ⟨rfl, by omega, h50⟩))
            | exact jn37 _ (Or.inr (Or.inr ⟨rfl, by omega, h50⟩))
    ·
      refine x_if_eq (tgt := 31) dx_M_unify_24 (by decide) ⟨by omega, by omega⟩ (fun h24 => ?_) (fun h24 => ?_)
      ·
        refine x_iconst dx_M_unify_31 ?_
        first
          | exact jn24 _ (Or.inl ⟨rfl, h24⟩)
          | exact jn24 _ (Or.inr ⟨rfl, by omega⟩)
      ·
        refine x_iconst dx_M_unify_27 ?_
        refine x_goto (tgt := 32) dx_M_unify_28 (by decide) ?_
        first
          | exact jn24 _ (Or.inl ⟨rfl, h24⟩)
          | exact jn24 _ (Or.inr ⟨rfl, by omega⟩)
  ·
    refine x_ifb_eq (tgt := 20) dx_M_unify_5 (by decide) (fun h5 => ?_) (fun h5 => ?_)
    ·
      rw [e] at h5
      refine x_iconst dx_M_unify_20 ?_
      first
        | exact jn5 _ (Or.inl ⟨rfl, fun q => h5 q.1⟩)
        | exact jn5 _ (Or.inl ⟨rfl, fun q => h13 q.2⟩)
        | exact jn5 _ (Or.inr ⟨rfl, h5, h13⟩)
    ·
      rw [e] at h5
      refine x_aload_n dx_M_unify_8 rfl rfl ?_
      refine x_iload_n dx_M_unify_9 rfl rfl ?_
      refine x_cvi1 (c_M_isNode hs0 ht) cf_M_72 ⟨rfl, rfl, by decide, by decide⟩ ⟨Nat.zero_le _, Nat.zero_le _⟩ (wl_get (by decide)) rfl rfl (Nat.le_of_ble_eq_true rfl) dx_M_unify_10 (fun z u hp => ?_)
      obtain ⟨rfl, rfl⟩ := hp
      refine x_ifb_eq (tgt := 20) dx_M_unify_13 (by decide) (fun h13 => ?_) (fun h13 => ?_)
      ·
        rw [e] at h13
        refine x_iconst dx_M_unify_20 ?_
        first
          | exact jn5 _ (Or.inl ⟨rfl, fun q => h5 q.1⟩)
          | exact jn5 _ (Or.inl ⟨rfl, fun q => h13 q.2⟩)
          | exact jn5 _ (Or.inr ⟨rfl, h5, h13⟩)
      ·
        rw [e] at h13
        refine x_iconst dx_M_unify_16 ?_
        refine x_goto (tgt := 21) dx_M_unify_17 (by decide) ?_
        first
          | exact jn5 _ (Or.inl ⟨rfl, fun q => h5 q.1⟩)
          | exact jn5 _ (Or.inl ⟨rfl, fun q => h13 q.2⟩)
          | exact jn5 _ (Or.inr ⟨rfl, h5, h13⟩)
