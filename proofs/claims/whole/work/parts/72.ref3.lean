set_option maxRecDepth 100000 in
set_option maxHeartbeats 4000000 in
theorem c_M_part {l : Launch} {D : va_G} {ca : Nat → ClassId} {ad : Nat → Nat} {σ : S0} {τ : S0} {s a Z D9 M : Int} (hl : LN τ σ s Z D9 M) (s0 : 0 ≤ s) (s1 : s < 40) (a0 : 0 ≤ a) (a1 : a < 40) (ha : a ≠ s) (hD : Rg D9) (hDa : Rg (τ.2.1 10 a + 1)) (m1 : 0 ≤ M ∧ M < p2 40) (m2 : 0 ≤ τ.2.2 11 a ∧ τ.2.2 11 a < p2 40) : CV l mn_M_part kw_M_part (rmk 1) D ca [.ref (ad 0), .int (zI s), .int (zI a)] (wg 16 LM ca ad σ) (fun u => LN τ u s (Z + τ.2.2 9 a) (mx D9 (τ.2.1 10 a + 1)) (orI M (τ.2.2 11 a))) (wg 16 LM ca ad) := by
  refine cv_in rc_M cd_M_part 3 rfl rfl (by decide) (Nat.le_of_ble_eq_true rfl) (fun κ h1 h2 h3 hret => ?_)
  subst h1; subst h2; subst h3
  refine x_lv [(0, .ref (ad 0)), (1, .int (zI s)), (2, .int (zI a))] rfl ?_
  have e1 : σ.2.1 10 s = D9 := by rw [hl.2.2.1, ui_at]
  have e2 : σ.2.1 10 a = τ.2.1 10 a := by rw [hl.2.2.1, ui_ne _ _ ha]
  have e3 : σ.2.2 11 s = M := by rw [hl.2.2.2.2.2, ui_at]
  have e4 : σ.2.2 11 a = τ.2.2 11 a := by rw [hl.2.2.2.2.2, ui_ne _ _ ha]
  refine x_aload_n dx_M_part_0 rfl rfl ?_
  refine x_get fa_M_34 dx_M_part_1 (by decide) rfl rfl ?_
  refine x_iload_n dx_M_part_4 rfl rfl ?_
  refine x_dup2 dx_M_part_5 rfl rfl ?_
  refine x_lald dx_M_part_6 (by decide) rfl (by omega) (by omega) (by decide) ?_
  refine x_aload_n dx_M_part_7 rfl rfl ?_
  refine x_get fa_M_34 dx_M_part_8 (by decide) rfl rfl ?_
  refine x_iload_n dx_M_part_11 rfl rfl ?_
  refine x_lald dx_M_part_12 (by decide) rfl (by omega) (by omega) (by decide) ?_
  refine x_ladd dx_M_part_13 ?_
  refine x_last dx_M_part_14 (by decide) rfl (by omega) (by omega) (by decide) ?_
  refine x_aload_n dx_M_part_15 rfl rfl ?_
  refine x_get fa_M_38 dx_M_part_16 (by decide) rfl rfl ?_
  refine x_iload_n dx_M_part_19 rfl rfl ?_
  refine x_aload_n dx_M_part_20 rfl rfl ?_
  refine x_get fa_M_38 dx_M_part_21 (by decide) rfl rfl ?_
  refine x_iload_n dx_M_part_24 rfl rfl ?_
  refine x_iald dx_M_part_25 (by decide) rfl (by omega) (by omega) (by decide) ?_
  refine x_iconst dx_M_part_26 ?_
  refine x_iadd dx_M_part_27 ?_
  refine x_aload_n dx_M_part_28 rfl rfl ?_
  refine x_get fa_M_38 dx_M_part_29 (by decide) rfl rfl ?_
  refine x_iload_n dx_M_part_32 rfl rfl ?_
  refine x_iald dx_M_part_33 (by decide) rfl (by omega) (by omega) (by decide) ?_
  refine x_tern 54 2 (fun v => v = mx (σ.2.1 10 s) (σ.2.1 10 a + 1)) (fun v34 hv34 => ?_) (fun jn34 => ?_)
  ·
    subst hv34
    refine x_iast dx_M_part_54 (by decide) rfl (by omega) (by omega) (by decide) ?_
    refine x_aload_n dx_M_part_55 rfl rfl ?_
    refine x_get fa_M_41 dx_M_part_56 (by decide) rfl rfl ?_
    refine x_iload_n dx_M_part_59 rfl rfl ?_
    refine x_dup2 dx_M_part_60 rfl rfl ?_
    refine x_lald dx_M_part_61 (by decide) rfl (by omega) (by omega) (by decide) ?_
    refine x_aload_n dx_M_part_62 rfl rfl ?_
    refine x_get fa_M_41 dx_M_part_63 (by decide) rfl rfl ?_
    refine x_iload_n dx_M_part_66 rfl rfl ?_
    refine x_lald dx_M_part_67 (by decide) rfl (by omega) (by omega) (by decide) ?_
    refine x_lor dx_M_part_68 (show zL (σ.2.2 11 s) ||| zL (σ.2.2 11 a) = _ from orI_zL (by rw [e3]; exact m1.1) (by rw [e3]; exact m1.2) (by rw [e4]; exact m2.1) (by rw [e4]; exact m2.2)) ?_
    refine x_last dx_M_part_69 (by decide) rfl (by omega) (by omega) (by decide) ?_
    exact hret _ _ _ (ln_part hl ha) dx_M_part_70
  ·
    refine x_icmp_le (tgt := 48) dx_M_part_34 (by decide) (show Rg (σ.2.1 10 a + 1) from by rw [e2]; exact hDa) (show Rg (σ.2.1 10 s) from by rw [e1]; exact hD) (fun h34 => ?_) (fun h34 => ?_)
    ·
      refine x_aload_n dx_M_part_48 rfl rfl ?_
      refine x_get fa_M_38 dx_M_part_49 (by decide) rfl rfl ?_
      refine x_iload_n dx_M_part_52 rfl rfl ?_
      refine x_iald dx_M_part_53 (by decide) rfl (by omega) (by omega) (by decide) ?_
      first
        | exact jn34 _ (if_neg (by have h34 : σ.2.1 10 a + 1 ≤ σ.2.1 10 s := h34; omega)).symm
        | exact jn34 _ (if_pos h34).symm
    ·
      refine x_aload_n dx_M_part_37 rfl rfl ?_
      refine x_get fa_M_38 dx_M_part_38 (by decide) rfl rfl ?_
      refine x_iload_n dx_M_part_41 rfl rfl ?_
      refine x_iald dx_M_part_42 (by decide) rfl (by omega) (by omega) (by decide) ?_
      refine x_iconst dx_M_part_43 ?_
      refine x_iadd dx_M_part_44 ?_
      refine x_goto (tgt := 54) dx_M_part_45 (by decide) ?_
      first
        | exact jn34 _ (if_neg (by have h34 : σ.2.1 10 a + 1 ≤ σ.2.1 10 s := h34; omega)).symm
        | exact jn34 _ (if_pos h34).symm
set_option maxRecDepth 100000 in
set_option maxHeartbeats 4000000 in
theorem c_M_learn {l : Launch} {D : va_G} {ca : Nat → ClassId} {ad : Nat → Nat} {σ : S0} {n : Int} {kd fa sa : Int → Int} {w : S0} {val : Int → Int} {s : Int} (hs : Ok σ) (T : Tb n kd fa sa) (hT : RT σ n kd fa sa) (hN : NVAL n kd fa sa (σ.2.1 7) (σ.2.1 8) w val) (hk : (∀ y, In n y → KN n (σ.2.1 7) (σ.2.1 8) w val σ y)) (is : In n s) : CI l mn_M_learn kw_M_learn (rmk 2) D ca [.ref (ad 0), .int (zI s)] (wg 16 LM ca ad σ) (fun z u => (z = 0 ∧ ¬ CAN fa sa (σ.2.1 8) σ s ∧ σ = u) ∨ (z = 1 ∧ (∃ Z D M, LN σ u s Z D M) ∧ Ok u ∧ (∀ y, In n y → KN n (σ.2.1 7) (σ.2.1 8) w val u y) ∧ sm (fun x => bz (0 < σ.2.2 9 x)) n.toNat + 1 = sm (fun x => bz (0 < u.2.2 9 x)) n.toNat)) (wg 16 LM ca ad) := by
  refine ci_in rc_M cd_M_learn 4 .boolean rfl rfl (by decide) (Nat.le_of_ble_eq_true rfl) (fun κ h1 h2 h3 hret => ?_)
  subst h1; subst h2; subst h3
  refine x_lv [(0, .ref (ad 0)), (1, .int (zI s))] rfl ?_
  have n40 := T.2.1
  have g1 : In n (σ.2.1 7 s) := (hN.2.2.2.2.2.2.1 s is).1
  have hh : σ.2.1 8 s = -1 ∨ In n (σ.2.1 8 s) := (hN.2.2.1 s is).imp (fun q => q.1) (fun q => q.1)
  refine x_aload_n dx_M_learn_0 rfl rfl ?_
  refine x_get fa_M_31 dx_M_learn_1 (by decide) rfl rfl ?_
  refine x_iload_n dx_M_learn_4 rfl rfl ?_
  refine x_iald dx_M_learn_5 (by decide) rfl (by omega) (by omega) (by decide) ?_
  refine x_istore_n dx_M_learn_6 rfl (by decide) ?_
  refine x_aload_n dx_M_learn_7 rfl rfl ?_
  refine x_iload_n dx_M_learn_8 rfl rfl ?_
  refine x_cvi1 (c_M_isKnown hs is.1 (by omega)) cf_M_80 ⟨rfl, rfl, by decide, by decide⟩ ⟨Nat.zero_le _, Nat.zero_le _⟩ (wl_get (by decide)) rfl rfl (Nat.le_of_ble_eq_true rfl) dx_M_learn_9 (fun z u hp => ?_)
  obtain ⟨rfl, rfl⟩ := hp
  refine x_tern 70 1 (fun v => v = bz (CAN fa sa (σ.2.1 8) σ s)) (fun v12 hv12 => ?_) (fun jn12 => ?_)
  ·
    subst hv12
    refine x_istore_n dx_M_learn_70 rfl (by decide) ?_
    refine x_iload_n dx_M_learn_71 rfl rfl ?_
    refine x_ifb_ne (tgt := 77) dx_M_learn_72 (by decide) (fun h72 => ?_) (fun h72 => ?_)
    ·
      refine x_aload_n dx_M_learn_77 rfl rfl ?_
      refine x_get fa_M_34 dx_M_learn_78 (by decide) rfl rfl ?_
      refine x_iload_n dx_M_learn_81 rfl rfl ?_
      refine x_lconst (z := 1) dx_M_learn_82 (by decide) ?_
      refine x_last dx_M_learn_83 (by decide) rfl (by omega) (by omega) (by decide) ?_
      refine x_aload_n dx_M_learn_84 rfl rfl ?_
      refine x_get fa_M_38 dx_M_learn_85 (by decide) rfl rfl ?_
      refine x_iload_n dx_M_learn_88 rfl rfl ?_
      refine x_iconst dx_M_learn_89 ?_
      refine x_iast dx_M_learn_90 (by decide) rfl (by omega) (by omega) (by decide) ?_
      refine x_aload_n dx_M_learn_91 rfl rfl ?_
      refine x_get fa_M_41 dx_M_learn_92 (by decide) rfl rfl ?_
      refine x_iload_n dx_M_learn_95 rfl rfl ?_
      refine x_iload_n dx_M_learn_96 rfl rfl ?_
      refine x_ternL 112 1 (fun m => (σ.2.1 8 s = -1 ∧ m = p2 (σ.2.1 7 s).toNat) ∨ (σ.2.1 8 s ≠ -1 ∧ m = 0)) (fun v97 hv97 => ?_) (fun jn97 => ?_)
      ·
        have mb : 0 ≤ v97 ∧ v97 < p2 40 := by
          rcases hv97 with ⟨-, e⟩ | ⟨-, e⟩
          · have p := p2_le (show (σ.2.1 7 s).toNat + 1 ≤ 40 by have := g1.2; omega)
            rw [p2_succ] at p
            have := p2_pos (σ.2.1 7 s).toNat
            omega
          · have := p2_pos 40
            omega
        obtain ⟨m0, m1⟩ := mb
        refine x_last dx_M_learn_112 (by decide) rfl (by omega) (by omega) (by decide) ?_
        refine x_joinW 137 0 (fun u => LN σ u s (1 + soF (σ.2.2 9) (ag fa (σ.2.1 8) s)) (1 + mx 0 (soF (σ.2.1 10) (ag fa (σ.2.1 8) s))) (orI v97 (soF (σ.2.2 11) (ag fa (σ.2.1 8) s)))) (fun u113 hv113 => ?_) (fun jn113 => ?_)
        ·
          have g8 : u113.2.1 8 = σ.2.1 8 := hv113.2.1 8 (by decide)
          have g2 : u113.2.1 2 = σ.2.1 2 := hv113.2.1 2 (by decide)
          have g4 : u113.2.1 4 = σ.2.1 4 := hv113.2.1 4 (by decide)
          have sA : ag fa (σ.2.1 8) s = -1 ∨ (KN n (σ.2.1 7) (σ.2.1 8) w val σ (ag fa (σ.2.1 8) s) ∧ 0 < σ.2.2 9 (ag fa (σ.2.1 8) s)) := ag_kn T hh h72 hk
          have sA := ag_b hN.1 hN.2.1 sA
          have dA : 0 ≤ mx 0 (soF (σ.2.1 10) (ag fa (σ.2.1 8) s)) := (le_mx _ _).1
          have dA2 : mx 0 (soF (σ.2.1 10) (ag fa (σ.2.1 8) s)) ≤ 40 := mx_le (by decide) sA.2.1
          have om := orI_lt m1 sA.2.2.2
          refine x_joinW 162 0 (fun u => LN σ u s (1 + soF (σ.2.2 9) (ag fa (σ.2.1 8) s) + soF (σ.2.2 9) (ag sa (σ.2.1 8) s)) (1 + mx (mx 0 (soF (σ.2.1 10) (ag fa (σ.2.1 8) s))) (soF (σ.2.1 10) (ag sa (σ.2.1 8) s))) (orI (orI v97 (soF (σ.2.2 11) (ag fa (σ.2.1 8) s))) (soF (σ.2.2 11) (ag sa (σ.2.1 8) s)))) (fun u137 hv137 => ?_) (fun jn137 => ?_)
          ·
            rw [mx_0l sA.1] at hv137
            refine x_iconst dx_M_learn_162 ?_
            obtain ⟨w1, w2, w3, w4⟩ := ln_kn T hN is h72 hk hv97 hv137 hs
            exact hret _ _ _ _ (Or.inr ⟨rfl, ⟨_, _, _, hv137⟩, w3, w1, w4⟩) rfl dx_M_learn_163
          ·
            refine x_iload_n dx_M_learn_137 rfl rfl ?_
            refine x_if_lt (tgt := 162) dx_M_learn_138 (by decide) (hs.2.1 8 s) (fun h138 => ?_) (fun h138 => ?_)
            ·
              have h138 : σ.2.1 8 s < 0 := h138
              have K4 : LN σ u113 s (1 + soF (σ.2.2 9) (ag fa (σ.2.1 8) s) + soF (σ.2.2 9) (ag sa (σ.2.1 8) s)) (1 + mx (mx 0 (soF (σ.2.1 10) (ag fa (σ.2.1 8) s))) (soF (σ.2.1 10) (ag sa (σ.2.1 8) s))) (orI (orI v97 (soF (σ.2.2 11) (ag fa (σ.2.1 8) s))) (soF (σ.2.2 11) (ag sa (σ.2.1 8) s))) := ln_none hv113 (ag_none (by omega)) dA om.1
              first
                | exact jn137 _ K4
                | exact jn137 _ (ln_some (by rw [ag_some (f := sa) c0]; exact hp) (by rw [ag_some c0]; exact f4))
            ·
              have h138 : 0 ≤ σ.2.1 8 s := h138
              have it : In n (σ.2.1 8 s) := hh.resolve_left (by omega)
              have rt := rt_x T hT it
              have c0 : σ.2.1 8 s ≠ -1 := by omega
              refine x_aload_n dx_M_learn_141 rfl rfl ?_
              refine x_get fa_M_13 dx_M_learn_142 (by decide) rfl rfl ?_
              refine x_iload_n dx_M_learn_145 rfl rfl ?_
              refine x_iald dx_M_learn_146 (by decide) rfl (by omega) (by omega) (by decide) ?_
              refine x_iconst dx_M_learn_147 ?_
              refine x_icmp_le (tgt := 162) dx_M_learn_148 (by decide) (by rw [g2]; exact hs.2.1 2 _) ⟨by decide, by decide⟩ (fun h148 => ?_) (fun h148 => ?_)
              ·
                have h148 : σ.2.1 2 (σ.2.1 8 s) ≤ 1 := by rw [← g2]; exact h148
                have K4 : LN σ u113 s (1 + soF (σ.2.2 9) (ag fa (σ.2.1 8) s) + soF (σ.2.2 9) (ag sa (σ.2.1 8) s)) (1 + mx (mx 0 (soF (σ.2.1 10) (ag fa (σ.2.1 8) s))) (soF (σ.2.1 10) (ag sa (σ.2.1 8) s))) (orI (orI v97 (soF (σ.2.2 11) (ag fa (σ.2.1 8) s))) (soF (σ.2.2 11) (ag sa (σ.2.1 8) s))) := ln_none hv113 (by rw [ag_some c0]; exact Classical.byContradiction fun q => by have := rt.2.2.1.mpr q; omega) dA om.1
                first
                  | exact jn137 _ K4
                  | exact jn137 _ (ln_some (by rw [ag_some (f := sa) c0]; exact hp) (by rw [ag_some c0]; exact f4))
              ·
                have h148 : 1 < σ.2.1 2 (σ.2.1 8 s) := by rw [← g2]; exact h148
                have f4 : sa (σ.2.1 8 s) ≠ -1 := rt.2.2.1.mp h148
                have i4 := T.sa_in it f4
                have q4 : σ.2.1 4 (σ.2.1 8 s) = sa (σ.2.1 8 s) := rt.2.2.2.2
                have p4 : 0 < σ.2.2 9 (sa (σ.2.1 8 s)) := (h72.2.resolve_left c0).2.resolve_left f4
                have b4 := kn_b hN.1 hN.2.1 (hk _ i4) p4
                have n4 : sa (σ.2.1 8 s) ≠ s := fun q => h72.1 (by rw [← q]; exact p4)
                refine x_aload_n dx_M_learn_151 rfl rfl ?_
                refine x_iload_n dx_M_learn_152 rfl rfl ?_
                refine x_aload_n dx_M_learn_153 rfl rfl ?_
                refine x_get fa_M_19 dx_M_learn_154 (by decide) rfl rfl ?_
                refine x_iload_n dx_M_learn_157 rfl rfl ?_
                refine x_iald dx_M_learn_158 (by decide) rfl (by omega) (by omega) (by decide) ?_
                refine x_st (show _ = [Value.int (zI (σ.2.1 4 (σ.2.1 8 s))), Value.int (zI s), Value.ref (ad 0)] from by rw [g4]; rfl) ?_
                refine x_cvv2 (c_M_part (τ := σ) (a := σ.2.1 4 (σ.2.1 8 s)) hv113 is.1 (by omega) (by omega) (by omega) (by rw [q4]; exact n4) ⟨by omega, by omega⟩ (by rw [q4]; exact ⟨by omega, by omega⟩) om (by rw [q4]; exact ⟨b4.2.2.1, b4.2.2.2⟩)) cf_M_83 ⟨rfl, rfl, by decide, by decide⟩ ⟨Nat.zero_le _, Nat.zero_le _⟩ (wl_get (by decide)) rfl rfl (Nat.le_of_ble_eq_true rfl) dx_M_learn_159 (fun u hp => ?_)
                rw [q4] at hp
                first
                  | exact jn137 _ K4
                  | exact jn137 _ (ln_some (by rw [ag_some (f := sa) c0]; exact hp) (by rw [ag_some c0]; exact f4))
        ·
          refine x_iload_n dx_M_learn_113 rfl rfl ?_
          refine x_if_lt (tgt := 137) dx_M_learn_114 (by decide) (hs.2.1 8 s) (fun h114 => ?_) (fun h114 => ?_)
          ·
            have h114 : σ.2.1 8 s < 0 := h114
            have K3 : LN σ (stL (stF (stL σ 9 s 1) 10 s 1) 11 s v97) s (1 + soF (σ.2.2 9) (ag fa (σ.2.1 8) s)) (1 + mx 0 (soF (σ.2.1 10) (ag fa (σ.2.1 8) s))) (orI v97 (soF (σ.2.2 11) (ag fa (σ.2.1 8) s))) := ln_none (d := 0) (ln_0 σ s v97) (ag_none (by omega)) (Int.le_refl _) m0
            first
              | exact jn113 _ K3
              | exact jn113 _ (ln_some (d := 0) (by rw [ag_some c0]; exact hp) (by rw [ag_some c0]; exact f3))
          ·
            have h114 : 0 ≤ σ.2.1 8 s := h114
            have it : In n (σ.2.1 8 s) := hh.resolve_left (by omega)
            have rt := rt_x T hT it
            have c0 : σ.2.1 8 s ≠ -1 := by omega
            refine x_aload_n dx_M_learn_117 rfl rfl ?_
            refine x_get fa_M_13 dx_M_learn_118 (by decide) rfl rfl ?_
            refine x_iload_n dx_M_learn_121 rfl rfl ?_
            refine x_iald dx_M_learn_122 (by decide) rfl (by omega) (by omega) (by decide) ?_
            refine x_if_le (tgt := 137) dx_M_learn_123 (by decide) (hs.2.1 2 _) (fun h123 => ?_) (fun h123 => ?_)
            ·
              have h123 : σ.2.1 2 (σ.2.1 8 s) ≤ 0 := h123
              have K3 : LN σ (stL (stF (stL σ 9 s 1) 10 s 1) 11 s v97) s (1 + soF (σ.2.2 9) (ag fa (σ.2.1 8) s)) (1 + mx 0 (soF (σ.2.1 10) (ag fa (σ.2.1 8) s))) (orI v97 (soF (σ.2.2 11) (ag fa (σ.2.1 8) s))) := ln_none (d := 0) (ln_0 σ s v97) (by rw [ag_some c0]; exact Classical.byContradiction fun q => by have := rt.2.1.mpr q; omega) (Int.le_refl _) m0
              first
                | exact jn113 _ K3
                | exact jn113 _ (ln_some (d := 0) (by rw [ag_some c0]; exact hp) (by rw [ag_some c0]; exact f3))
            ·
              have f3 : fa (σ.2.1 8 s) ≠ -1 := rt.2.1.mp h123
              have i3 := T.fa_in it f3
              have q3 : σ.2.1 3 (σ.2.1 8 s) = fa (σ.2.1 8 s) := rt.2.2.2.1
              have p3 : 0 < σ.2.2 9 (fa (σ.2.1 8 s)) := (h72.2.resolve_left c0).1.resolve_left f3
              have b3 := kn_b hN.1 hN.2.1 (hk _ i3) p3
              have n3 : fa (σ.2.1 8 s) ≠ s := fun q => h72.1 (by rw [← q]; exact p3)
              refine x_aload_n dx_M_learn_126 rfl rfl ?_
              refine x_iload_n dx_M_learn_127 rfl rfl ?_
              refine x_aload_n dx_M_learn_128 rfl rfl ?_
              refine x_get fa_M_16 dx_M_learn_129 (by decide) rfl rfl ?_
              refine x_iload_n dx_M_learn_132 rfl rfl ?_
              refine x_iald dx_M_learn_133 (by decide) rfl (by omega) (by omega) (by decide) ?_
              refine x_cvv2 (c_M_part (τ := σ) (a := σ.2.1 3 (σ.2.1 8 s)) (ln_0 σ s v97) is.1 (by omega) (by omega) (by omega) (by rw [q3]; exact n3) ⟨by decide, by decide⟩ (by rw [q3]; exact ⟨by omega, by omega⟩) ⟨m0, m1⟩ (by rw [q3]; exact ⟨b3.2.2.1, b3.2.2.2⟩)) cf_M_83 ⟨rfl, rfl, by decide, by decide⟩ ⟨Nat.zero_le _, Nat.zero_le _⟩ (wl_get (by decide)) rfl rfl (Nat.le_of_ble_eq_true rfl) dx_M_learn_134 (fun u hp => ?_)
              rw [q3] at hp
              first
                | exact jn113 _ K3
                | exact jn113 _ (ln_some (d := 0) (by rw [ag_some c0]; exact hp) (by rw [ag_some c0]; exact f3))
      ·
        refine x_if_ge (tgt := 111) dx_M_learn_97 (by decide) (hs.2.1 8 s) (fun h97 => ?_) (fun h97 => ?_)
        ·
          have h97 : 0 ≤ σ.2.1 8 s := h97
          refine x_lconst (z := 0) dx_M_learn_111 (by decide) ?_
          first
            | exact jn97 _ (Or.inr ⟨by omega, rfl⟩)
            | exact jn97 _ (Or.inl ⟨by omega, p2_pow _⟩)
        ·
          have h97 : σ.2.1 8 s < 0 := h97
          refine x_lconst (z := 1) dx_M_learn_100 (by decide) ?_
          refine x_aload_n dx_M_learn_101 rfl rfl ?_
          refine x_get fa_M_28 dx_M_learn_102 (by decide) rfl rfl ?_
          refine x_iload_n dx_M_learn_105 rfl rfl ?_
          refine x_iald dx_M_learn_106 (by decide) rfl (by omega) (by omega) (by decide) ?_
          refine x_lshl dx_M_learn_107 (shl1_zL (v := σ.2.1 7 s) g1.1 (by have : σ.2.1 7 s < n := g1.2; omega)) ?_
          refine x_goto (tgt := 112) dx_M_learn_108 (by decide) ?_
          first
            | exact jn97 _ (Or.inr ⟨by omega, rfl⟩)
            | exact jn97 _ (Or.inl ⟨by omega, p2_pow _⟩)
    ·
      refine x_iconst dx_M_learn_75 ?_
      exact hret _ _ _ _ (Or.inl ⟨rfl, h72, rfl⟩) rfl dx_M_learn_76
  ·
    refine x_ifb_ne (tgt := 69) dx_M_learn_12 (by decide) (fun h12 => ?_) (fun h12 => ?_)
    ·
      refine x_iconst dx_M_learn_69 ?_
      first
        | exact jn12 _ K0
        | exact jn12 _ (bz_f (fun q => q.1 h12)).symm
        | exact jn12 _ (bz_t ⟨h12, Or.inl (by omega)⟩).symm
        | exact jn12 _ (bz_t ⟨h12, Or.inr ⟨K1, K2⟩⟩).symm
    ·
      refine x_iload_n dx_M_learn_15 rfl rfl ?_
      refine x_if_lt (tgt := 65) dx_M_learn_16 (by decide) (hs.2.1 8 s) (fun h16 => ?_) (fun h16 => ?_)
      ·
        refine x_iconst dx_M_learn_65 ?_
        refine x_goto (tgt := 70) dx_M_learn_66 (by decide) ?_
        first
          | exact jn12 _ K0
          | exact jn12 _ (bz_f (fun q => q.1 h12)).symm
          | exact jn12 _ (bz_t ⟨h12, Or.inl (by omega)⟩).symm
          | exact jn12 _ (bz_t ⟨h12, Or.inr ⟨K1, K2⟩⟩).symm
      ·
        have it : In n (σ.2.1 8 s) := hh.resolve_left (by omega)
        have rt := rt_x T hT it
        have c0 : σ.2.1 8 s ≠ -1 := by omega
        refine x_aload_n dx_M_learn_19 rfl rfl ?_
        refine x_get fa_M_13 dx_M_learn_20 (by decide) rfl rfl ?_
        refine x_iload_n dx_M_learn_23 rfl rfl ?_
        refine x_iald dx_M_learn_24 (by decide) rfl (by omega) (by omega) (by decide) ?_
        refine x_iconst dx_M_learn_25 ?_
        refine x_icmp_lt (tgt := 42) dx_M_learn_26 (by decide) (hs.2.1 2 _) ⟨by decide, by decide⟩ (fun h26 => ?_) (fun h26 => ?_)
        ·
          have K1 : fa (σ.2.1 8 s) = -1 ∨ 0 < σ.2.2 9 (fa (σ.2.1 8 s)) := Or.inl (Classical.byContradiction fun q => by have := rt.2.1.mpr q; have h26 : σ.2.1 2 (σ.2.1 8 s) < 1 := h26; omega)
          refine x_aload_n dx_M_learn_42 rfl rfl ?_
          refine x_get fa_M_13 dx_M_learn_43 (by decide) rfl rfl ?_
          refine x_iload_n dx_M_learn_46 rfl rfl ?_
          refine x_iald dx_M_learn_47 (by decide) rfl (by omega) (by omega) (by decide) ?_
          refine x_iconst dx_M_learn_48 ?_
          refine x_icmp_lt (tgt := 65) dx_M_learn_49 (by decide) (hs.2.1 2 _) ⟨by decide, by decide⟩ (fun h49 => ?_) (fun h49 => ?_)
          ·
            have K2 : sa (σ.2.1 8 s) = -1 ∨ 0 < σ.2.2 9 (sa (σ.2.1 8 s)) := Or.inl (Classical.byContradiction fun q => by have := rt.2.2.1.mpr q; have h49 : σ.2.1 2 (σ.2.1 8 s) < 2 := h49; omega)
            refine x_iconst dx_M_learn_65 ?_
            refine x_goto (tgt := 70) dx_M_learn_66 (by decide) ?_
            first
              | exact jn12 _ K0
              | exact jn12 _ (bz_f (fun q => q.1 h12)).symm
              | exact jn12 _ (bz_t ⟨h12, Or.inl (by omega)⟩).symm
              | exact jn12 _ (bz_t ⟨h12, Or.inr ⟨K1, K2⟩⟩).symm
          ·
            have h49 : 2 ≤ σ.2.1 2 (σ.2.1 8 s) := h49
            have f2 : sa (σ.2.1 8 s) ≠ -1 := rt.2.2.1.mp (by omega)
            have i2 := T.sa_in it f2
            have r2 : σ.2.1 4 (σ.2.1 8 s) = sa (σ.2.1 8 s) := rt.2.2.2.2
            refine x_aload_n dx_M_learn_52 rfl rfl ?_
            refine x_aload_n dx_M_learn_53 rfl rfl ?_
            refine x_get fa_M_19 dx_M_learn_54 (by decide) rfl rfl ?_
            refine x_iload_n dx_M_learn_57 rfl rfl ?_
            refine x_iald dx_M_learn_58 (by decide) rfl (by omega) (by omega) (by decide) ?_
            refine x_cvi1 (c_M_isKnown hs (s := σ.2.1 4 (σ.2.1 8 s)) (by omega) (by omega)) cf_M_80 ⟨rfl, rfl, by decide, by decide⟩ ⟨Nat.zero_le _, Nat.zero_le _⟩ (wl_get (by decide)) rfl rfl (Nat.le_of_ble_eq_true rfl) dx_M_learn_59 (fun z u hp => ?_)
            obtain ⟨rfl, rfl⟩ := hp
            refine x_ifb_eq (tgt := 69) dx_M_learn_62 (by decide) (fun h62 => ?_) (fun h62 => ?_)
            ·
              have K0 : (0 : Int) = bz (CAN fa sa (σ.2.1 8) σ s) := (bz_f (fun q => h62 (by rw [r2]; exact (q.2.resolve_left c0).2.resolve_left f2))).symm
              refine x_iconst dx_M_learn_69 ?_
              first
                | exact jn12 _ K0
                | exact jn12 _ (bz_f (fun q => q.1 h12)).symm
                | exact jn12 _ (bz_t ⟨h12, Or.inl (by omega)⟩).symm
                | exact jn12 _ (bz_t ⟨h12, Or.inr ⟨K1, K2⟩⟩).symm
            ·
              have K2 : sa (σ.2.1 8 s) = -1 ∨ 0 < σ.2.2 9 (sa (σ.2.1 8 s)) := Or.inr (by rw [← r2]; exact h62)
              refine x_iconst dx_M_learn_65 ?_
              refine x_goto (tgt := 70) dx_M_learn_66 (by decide) ?_
              first
                | exact jn12 _ K0
                | exact jn12 _ (bz_f (fun q => q.1 h12)).symm
                | exact jn12 _ (bz_t ⟨h12, Or.inl (by omega)⟩).symm
                | exact jn12 _ (bz_t ⟨h12, Or.inr ⟨K1, K2⟩⟩).symm
        ·
          have h26 : 1 ≤ σ.2.1 2 (σ.2.1 8 s) := h26
          have f1 : fa (σ.2.1 8 s) ≠ -1 := rt.2.1.mp (by omega)
          have i1 := T.fa_in it f1
          have r1 : σ.2.1 3 (σ.2.1 8 s) = fa (σ.2.1 8 s) := rt.2.2.2.1
          refine x_aload_n dx_M_learn_29 rfl rfl ?_
          refine x_aload_n dx_M_learn_30 rfl rfl ?_
          refine x_get fa_M_16 dx_M_learn_31 (by decide) rfl rfl ?_
          refine x_iload_n dx_M_learn_34 rfl rfl ?_
          refine x_iald dx_M_learn_35 (by decide) rfl (by omega) (by omega) (by decide) ?_
          refine x_cvi1 (c_M_isKnown hs (s := σ.2.1 3 (σ.2.1 8 s)) (by omega) (by omega)) cf_M_80 ⟨rfl, rfl, by decide, by decide⟩ ⟨Nat.zero_le _, Nat.zero_le _⟩ (wl_get (by decide)) rfl rfl (Nat.le_of_ble_eq_true rfl) dx_M_learn_36 (fun z u hp => ?_)
          obtain ⟨rfl, rfl⟩ := hp
          refine x_ifb_eq (tgt := 69) dx_M_learn_39 (by decide) (fun h39 => ?_) (fun h39 => ?_)
          ·
            have K0 : (0 : Int) = bz (CAN fa sa (σ.2.1 8) σ s) := (bz_f (fun q => h39 (by rw [r1]; exact (q.2.resolve_left c0).1.resolve_left f1))).symm
            refine x_iconst dx_M_learn_69 ?_
            first
              | exact jn12 _ K0
              | exact jn12 _ (bz_f (fun q => q.1 h12)).symm
              | exact jn12 _ (bz_t ⟨h12, Or.inl (by omega)⟩).symm
              | exact jn12 _ (bz_t ⟨h12, Or.inr ⟨K1, K2⟩⟩).symm
          ·
            have K1 : fa (σ.2.1 8 s) = -1 ∨ 0 < σ.2.2 9 (fa (σ.2.1 8 s)) := Or.inr (by rw [← r1]; exact h39)
            refine x_aload_n dx_M_learn_42 rfl rfl ?_
            refine x_get fa_M_13 dx_M_learn_43 (by decide) rfl rfl ?_
            refine x_iload_n dx_M_learn_46 rfl rfl ?_
            refine x_iald dx_M_learn_47 (by decide) rfl (by omega) (by omega) (by decide) ?_
            refine x_iconst dx_M_learn_48 ?_
            refine x_icmp_lt (tgt := 65) dx_M_learn_49 (by decide) (hs.2.1 2 _) ⟨by decide, by decide⟩ (fun h49 => ?_) (fun h49 => ?_)
            ·
              have K2 : sa (σ.2.1 8 s) = -1 ∨ 0 < σ.2.2 9 (sa (σ.2.1 8 s)) := Or.inl (Classical.byContradiction fun q => by have := rt.2.2.1.mpr q; have h49 : σ.2.1 2 (σ.2.1 8 s) < 2 := h49; omega)
              refine x_iconst dx_M_learn_65 ?_
              refine x_goto (tgt := 70) dx_M_learn_66 (by decide) ?_
              first
                | exact jn12 _ K0
                | exact jn12 _ (bz_f (fun q => q.1 h12)).symm
                | exact jn12 _ (bz_t ⟨h12, Or.inl (by omega)⟩).symm
                | exact jn12 _ (bz_t ⟨h12, Or.inr ⟨K1, K2⟩⟩).symm
            ·
              have h49 : 2 ≤ σ.2.1 2 (σ.2.1 8 s) := h49
              have f2 : sa (σ.2.1 8 s) ≠ -1 := rt.2.2.1.mp (by omega)
              have i2 := T.sa_in it f2
              have r2 : σ.2.1 4 (σ.2.1 8 s) = sa (σ.2.1 8 s) := rt.2.2.2.2
              refine x_aload_n dx_M_learn_52 rfl rfl ?_
              refine x_aload_n dx_M_learn_53 rfl rfl ?_
              refine x_get fa_M_19 dx_M_learn_54 (by decide) rfl rfl ?_
              refine x_iload_n dx_M_learn_57 rfl rfl ?_
              refine x_iald dx_M_learn_58 (by decide) rfl (by omega) (by omega) (by decide) ?_
              refine x_cvi1 (c_M_isKnown hs (s := σ.2.1 4 (σ.2.1 8 s)) (by omega) (by omega)) cf_M_80 ⟨rfl, rfl, by decide, by decide⟩ ⟨Nat.zero_le _, Nat.zero_le _⟩ (wl_get (by decide)) rfl rfl (Nat.le_of_ble_eq_true rfl) dx_M_learn_59 (fun z u hp => ?_)
              obtain ⟨rfl, rfl⟩ := hp
              refine x_ifb_eq (tgt := 69) dx_M_learn_62 (by decide) (fun h62 => ?_) (fun h62 => ?_)
              ·
                have K0 : (0 : Int) = bz (CAN fa sa (σ.2.1 8) σ s) := (bz_f (fun q => h62 (by rw [r2]; exact (q.2.resolve_left c0).2.resolve_left f2))).symm
                refine x_iconst dx_M_learn_69 ?_
                first
                  | exact jn12 _ K0
                  | exact jn12 _ (bz_f (fun q => q.1 h12)).symm
                  | exact jn12 _ (bz_t ⟨h12, Or.inl (by omega)⟩).symm
                  | exact jn12 _ (bz_t ⟨h12, Or.inr ⟨K1, K2⟩⟩).symm
              ·
                have K2 : sa (σ.2.1 8 s) = -1 ∨ 0 < σ.2.2 9 (sa (σ.2.1 8 s)) := Or.inr (by rw [← r2]; exact h62)
                refine x_iconst dx_M_learn_65 ?_
                refine x_goto (tgt := 70) dx_M_learn_66 (by decide) ?_
                first
                  | exact jn12 _ K0
                  | exact jn12 _ (bz_f (fun q => q.1 h12)).symm
                  | exact jn12 _ (bz_t ⟨h12, Or.inl (by omega)⟩).symm
                  | exact jn12 _ (bz_t ⟨h12, Or.inr ⟨K1, K2⟩⟩).symm
