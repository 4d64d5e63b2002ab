set_option maxRecDepth 100000 in
set_option maxHeartbeats 4000000 in
theorem c_M_begins {l : Launch} {D : va_G} {ca : Nat → ClassId} {ad : Nat → Nat} {σ : S0} {n : Int} {kd fa sa : Int → Int} {s t : Int} (hs : Ok σ) (T : Tb n kd fa sa) (hT : RT σ n kd fa sa) (is : In n s) (it : In n t) (ha : σ.2.1 8 s = -1 ∨ In n (σ.2.1 8 s)) (hb : σ.2.1 8 t = -1 ∨ In n (σ.2.1 8 t)) : CI l mn_M_begins kw_M_begins (rmk 1) D ca [.ref (ad 0), .int (zI s), .int (zI t)] (wg 16 LM ca ad σ) (fun z u => bz (BGN kd (σ.2.1 7) (σ.2.1 8) s t) = z ∧ σ = u) (wg 16 LM ca ad) := by
  refine ci_in rc_M cd_M_begins 5 .boolean rfl rfl (by decide) (Nat.le_of_ble_eq_true rfl) (fun κ h1 h2 h3 hret => ?_)
  subst h1; subst h2; subst h3
  refine x_lv [(0, .ref (ad 0)), (1, .int (zI s)), (2, .int (zI t))] rfl ?_
  have n40 := T.2.1
  refine x_aload_n dx_M_begins_0 rfl rfl ?_
  refine x_get fa_M_31 dx_M_begins_1 (by decide) rfl rfl ?_
  refine x_iload_n dx_M_begins_4 rfl rfl ?_
  refine x_iald dx_M_begins_5 (by decide) rfl (by omega) (by omega) (by decide) ?_
  refine x_istore_n dx_M_begins_6 rfl (by decide) ?_
  refine x_aload_n dx_M_begins_7 rfl rfl ?_
  refine x_get fa_M_31 dx_M_begins_8 (by decide) rfl rfl ?_
  refine x_iload_n dx_M_begins_11 rfl rfl ?_
  refine x_iald dx_M_begins_12 (by decide) rfl (by omega) (by omega) (by decide) ?_
  refine x_istore dx_M_begins_13 (by decide) ?_
  refine x_iload_n dx_M_begins_15 rfl rfl ?_
  refine x_if_lt (tgt := 24) dx_M_begins_16 (by decide) (by first | exact hs.2.1 _ _ | exact hs.1 _ | exact ⟨by omega, by omega⟩) (fun h16 => ?_) (fun h16 => ?_)
  ·
    have a1 : σ.2.1 8 s = -1 := by omega
    refine x_iload_n dx_M_begins_24 rfl rfl ?_
    refine x_if_ge (tgt := 52) dx_M_begins_25 (by decide) (by first | exact hs.2.1 _ _ | exact hs.1 _ | exact ⟨by omega, by omega⟩) (fun h25 => ?_) (fun h25 => ?_)
    ·
      refine x_iconst dx_M_begins_52 ?_
      first
        | exact hret _ _ _ _ ⟨bz_t (Or.inl ⟨by omega, by omega, h45⟩), rfl⟩ rfl dx_M_begins_53
        | exact hret _ _ _ _ ⟨bz_f (fun q => q.elim (fun q => by omega) (fun q => by omega)), rfl⟩ rfl dx_M_begins_53
        | exact hret _ _ _ _ ⟨bz_f (fun q => q.elim (fun q => h45 q.2.2) (fun q => by omega)), rfl⟩ rfl dx_M_begins_53
    ·
      refine x_iload dx_M_begins_28 rfl ?_
      refine x_if_ge (tgt := 52) dx_M_begins_30 (by decide) (by first | exact hs.2.1 _ _ | exact hs.1 _ | exact ⟨by omega, by omega⟩) (fun h30 => ?_) (fun h30 => ?_)
      ·
        refine x_iconst dx_M_begins_52 ?_
        first
          | exact hret _ _ _ _ ⟨bz_t (Or.inl ⟨by omega, by omega, h45⟩), rfl⟩ rfl dx_M_begins_53
          | exact hret _ _ _ _ ⟨bz_f (fun q => q.elim (fun q => by omega) (fun q => by omega)), rfl⟩ rfl dx_M_begins_53
          | exact hret _ _ _ _ ⟨bz_f (fun q => q.elim (fun q => h45 q.2.2) (fun q => by omega)), rfl⟩ rfl dx_M_begins_53
      ·
        refine x_aload_n dx_M_begins_33 rfl rfl ?_
        refine x_get fa_M_28 dx_M_begins_34 (by decide) rfl rfl ?_
        refine x_iload_n dx_M_begins_37 rfl rfl ?_
        refine x_iald dx_M_begins_38 (by decide) rfl (by omega) (by omega) (by decide) ?_
        refine x_aload_n dx_M_begins_39 rfl rfl ?_
        refine x_get fa_M_28 dx_M_begins_40 (by decide) rfl rfl ?_
        refine x_iload_n dx_M_begins_43 rfl rfl ?_
        refine x_iald dx_M_begins_44 (by decide) rfl (by omega) (by omega) (by decide) ?_
        refine x_icmp_ne (tgt := 52) dx_M_begins_45 (by decide) (hs.2.1 7 s) (hs.2.1 7 t) (fun h45 => ?_) (fun h45 => ?_)
        ·
          refine x_iconst dx_M_begins_52 ?_
          first
            | exact hret _ _ _ _ ⟨bz_t (Or.inl ⟨by omega, by omega, h45⟩), rfl⟩ rfl dx_M_begins_53
            | exact hret _ _ _ _ ⟨bz_f (fun q => q.elim (fun q => by omega) (fun q => by omega)), rfl⟩ rfl dx_M_begins_53
            | exact hret _ _ _ _ ⟨bz_f (fun q => q.elim (fun q => h45 q.2.2) (fun q => by omega)), rfl⟩ rfl dx_M_begins_53
        ·
          refine x_iconst dx_M_begins_48 ?_
          refine x_goto (tgt := 53) dx_M_begins_49 (by decide) ?_
          first
            | exact hret _ _ _ _ ⟨bz_t (Or.inl ⟨by omega, by omega, h45⟩), rfl⟩ rfl dx_M_begins_53
            | exact hret _ _ _ _ ⟨bz_f (fun q => q.elim (fun q => by omega) (fun q => by omega)), rfl⟩ rfl dx_M_begins_53
            | exact hret _ _ _ _ ⟨bz_f (fun q => q.elim (fun q => h45 q.2.2) (fun q => by omega)), rfl⟩ rfl dx_M_begins_53
  ·
    refine x_iload dx_M_begins_19 rfl ?_
    refine x_if_ge (tgt := 54) dx_M_begins_21 (by decide) (by first | exact hs.2.1 _ _ | exact hs.1 _ | exact ⟨by omega, by omega⟩) (fun h21 => ?_) (fun h21 => ?_)
    ·
      have ia : In n (σ.2.1 8 s) := ha.resolve_left (by omega)
      have ib : In n (σ.2.1 8 t) := hb.resolve_left (by omega)
      have rk := rt_k T hT ia ib
      refine x_aload_n dx_M_begins_54 rfl rfl ?_
      refine x_get fa_M_7 dx_M_begins_55 (by decide) rfl rfl ?_
      refine x_iload_n dx_M_begins_58 rfl rfl ?_
      refine x_iald dx_M_begins_59 (by decide) rfl (by omega) (by omega) (by decide) ?_
      refine x_aload_n dx_M_begins_60 rfl rfl ?_
      refine x_get fa_M_7 dx_M_begins_61 (by decide) rfl rfl ?_
      refine x_iload dx_M_begins_64 rfl ?_
      refine x_iald dx_M_begins_66 (by decide) rfl (by omega) (by omega) (by decide) ?_
      refine x_icmp_ne (tgt := 90) dx_M_begins_67 (by decide) (by first | exact hs.2.1 _ _ | exact hs.1 _ | exact ⟨by omega, by omega⟩) (by first | exact hs.2.1 _ _ | exact hs.1 _ | exact ⟨by omega, by omega⟩) (fun h67 => ?_) (fun h67 => ?_)
      ·
        refine x_iconst dx_M_begins_90 ?_
        have n1 : σ.2.1 8 s ≠ -1 := by omega
        have n2 : σ.2.1 8 t ≠ -1 := by omega
        first
          | exact hret _ _ _ _ ⟨bz_t (Or.inr ⟨n1, n2, rk.mp ⟨h67, h83⟩⟩), rfl⟩ rfl dx_M_begins_91
          | exact hret _ _ _ _ ⟨bz_f (fun q => q.elim (fun q => n1 q.1) (fun q => h83 (rk.mpr q.2.2).2)), rfl⟩ rfl dx_M_begins_91
          | exact hret _ _ _ _ ⟨bz_f (fun q => q.elim (fun q => n1 q.1) (fun q => h67 (rk.mpr q.2.2).1)), rfl⟩ rfl dx_M_begins_91
      ·
        refine x_aload_n dx_M_begins_70 rfl rfl ?_
        refine x_get fa_M_13 dx_M_begins_71 (by decide) rfl rfl ?_
        refine x_iload_n dx_M_begins_74 rfl rfl ?_
        refine x_iald dx_M_begins_75 (by decide) rfl (by omega) (by omega) (by decide) ?_
        refine x_aload_n dx_M_begins_76 rfl rfl ?_
        refine x_get fa_M_13 dx_M_begins_77 (by decide) rfl rfl ?_
        refine x_iload dx_M_begins_80 rfl ?_
        refine x_iald dx_M_begins_82 (by decide) rfl (by omega) (by omega) (by decide) ?_
        refine x_icmp_ne (tgt := 90) dx_M_begins_83 (by decide) (by first | exact hs.2.1 _ _ | exact hs.1 _ | exact ⟨by omega, by omega⟩) (by first | exact hs.2.1 _ _ | exact hs.1 _ | exact ⟨by omega, by omega⟩) (fun h83 => ?_) (fun h83 => ?_)
        ·
          refine x_iconst dx_M_begins_90 ?_
          have n1 : σ.2.1 8 s ≠ -1 := by omega
          have n2 : σ.2.1 8 t ≠ -1 := by omega
          first
            | exact hret _ _ _ _ ⟨bz_t (Or.inr ⟨n1, n2, rk.mp ⟨h67, h83⟩⟩), rfl⟩ rfl dx_M_begins_91
            | exact hret _ _ _ _ ⟨bz_f (fun q => q.elim (fun q => n1 q.1) (fun q => h83 (rk.mpr q.2.2).2)), rfl⟩ rfl dx_M_begins_91
            | exact hret _ _ _ _ ⟨bz_f (fun q => q.elim (fun q => n1 q.1) (fun q => h67 (rk.mpr q.2.2).1)), rfl⟩ rfl dx_M_begins_91
        ·
          refine x_iconst dx_M_begins_86 ?_
          refine x_goto (tgt := 91) dx_M_begins_87 (by decide) ?_
          have n1 : σ.2.1 8 s ≠ -1 := by omega
          have n2 : σ.2.1 8 t ≠ -1 := by omega
          first
            | exact hret _ _ _ _ ⟨bz_t (Or.inr ⟨n1, n2, rk.mp ⟨h67, h83⟩⟩), rfl⟩ rfl dx_M_begins_91
            | exact hret _ _ _ _ ⟨bz_f (fun q => q.elim (fun q => n1 q.1) (fun q => h83 (rk.mpr q.2.2).2)), rfl⟩ rfl dx_M_begins_91
            | exact hret _ _ _ _ ⟨bz_f (fun q => q.elim (fun q => n1 q.1) (fun q => h67 (rk.mpr q.2.2).1)), rfl⟩ rfl dx_M_begins_91
    ·
      have b1 : σ.2.1 8 t = -1 := by omega
      refine x_iload_n dx_M_begins_24 rfl rfl ?_
      refine x_if_ge (tgt := 52) dx_M_begins_25 (by decide) (by first | exact hs.2.1 _ _ | exact hs.1 _ | exact ⟨by omega, by omega⟩) (fun h25 => ?_) (fun h25 => ?_)
      ·
        refine x_iconst dx_M_begins_52 ?_
        first
          | exact hret _ _ _ _ ⟨bz_t (Or.inl ⟨by omega, by omega, h45⟩), rfl⟩ rfl dx_M_begins_53
          | exact hret _ _ _ _ ⟨bz_f (fun q => q.elim (fun q => by omega) (fun q => by omega)), rfl⟩ rfl dx_M_begins_53
          | exact hret _ _ _ _ ⟨bz_f (fun q => q.elim (fun q => h45 q.2.2) (fun q => by omega)), rfl⟩ rfl dx_M_begins_53
      ·
        refine x_iload dx_M_begins_28 rfl ?_
        refine x_if_ge (tgt := 52) dx_M_begins_30 (by decide) (by first | exact hs.2.1 _ _ | exact hs.1 _ | exact ⟨by omega, by omega⟩) (fun h30 => ?_) (fun h30 => ?_)
        ·
          refine x_iconst dx_M_begins_52 ?_
          first
            | exact hret _ _ _ _ ⟨bz_t (Or.inl ⟨by omega, by omega, h45⟩), rfl⟩ rfl dx_M_begins_53
            | exact hret _ _ _ _ ⟨bz_f (fun q => q.elim (fun q => by omega) (fun q => by omega)), rfl⟩ rfl dx_M_begins_53
            | exact hret _ _ _ _ ⟨bz_f (fun q => q.elim (fun q => h45 q.2.2) (fun q => by omega)), rfl⟩ rfl dx_M_begins_53
        ·
          refine x_aload_n dx_M_begins_33 rfl rfl ?_
          refine x_get fa_M_28 dx_M_begins_34 (by decide) rfl rfl ?_
          refine x_iload_n dx_M_begins_37 rfl rfl ?_
          refine x_iald dx_M_begins_38 (by decide) rfl (by omega) (by omega) (by decide) ?_
          refine x_aload_n dx_M_begins_39 rfl rfl ?_
          refine x_get fa_M_28 dx_M_begins_40 (by decide) rfl rfl ?_
          refine x_iload_n dx_M_begins_43 rfl rfl ?_
          refine x_iald dx_M_begins_44 (by decide) rfl (by omega) (by omega) (by decide) ?_
          refine x_icmp_ne (tgt := 52) dx_M_begins_45 (by decide) (hs.2.1 7 s) (hs.2.1 7 t) (fun h45 => ?_) (fun h45 => ?_)
          ·
            refine x_iconst dx_M_begins_52 ?_
            first
              | exact hret _ _ _ _ ⟨bz_t (Or.inl ⟨by omega, by omega, h45⟩), rfl⟩ rfl dx_M_begins_53
              | exact hret _ _ _ _ ⟨bz_f (fun q => q.elim (fun q => by omega) (fun q => by omega)), rfl⟩ rfl dx_M_begins_53
              | exact hret _ _ _ _ ⟨bz_f (fun q => q.elim (fun q => h45 q.2.2) (fun q => by omega)), rfl⟩ rfl dx_M_begins_53
          ·
            refine x_iconst dx_M_begins_48 ?_
            refine x_goto (tgt := 53) dx_M_begins_49 (by decide) ?_
            first
              | exact hret _ _ _ _ ⟨bz_t (Or.inl ⟨by omega, by omega, h45⟩), rfl⟩ rfl dx_M_begins_53
              | exact hret _ _ _ _ ⟨bz_f (fun q => q.elim (fun q => by omega) (fun q => by omega)), rfl⟩ rfl dx_M_begins_53
              | exact hret _ _ _ _ ⟨bz_f (fun q => q.elim (fun q => h45 q.2.2) (fun q => by omega)), rfl⟩ rfl dx_M_begins_53
set_option maxRecDepth 100000 in
set_option maxHeartbeats 4000000 in
theorem c_M_partsAlike {l : Launch} {D : va_G} {ca : Nat → ClassId} {ad : Nat → Nat} {σ : S0} {n : Int} {kd fa sa : Int → Int} {s t : Int} (hs : Ok σ) (T : Tb n kd fa sa) (hT : RT σ n kd fa sa) (is : In n s) (it : In n t) (ha : σ.2.1 8 s = -1 ∨ In n (σ.2.1 8 s)) (hb : σ.2.1 8 t = -1 ∨ In n (σ.2.1 8 t)) (hk : σ.2.1 8 s ≠ -1 → σ.2.1 8 t ≠ -1 ∧ kd (σ.2.1 8 s) ≠ -1 ∧ kd (σ.2.1 8 s) = kd (σ.2.1 8 t)) : CI l mn_M_partsAlike kw_M_partsAlike (rmk 1) D ca [.ref (ad 0), .int (zI s), .int (zI t)] (wg 16 LM ca ad σ) (fun z u => bz (PAL fa sa (σ.2.1 8) (σ.2.1 12) s t) = z ∧ σ = u) (wg 16 LM ca ad) := by
  refine ci_in rc_M cd_M_partsAlike 5 .boolean rfl rfl (by decide) (Nat.le_of_ble_eq_true rfl) (fun κ h1 h2 h3 hret => ?_)
  subst h1; subst h2; subst h3
  refine x_lv [(0, .ref (ad 0)), (1, .int (zI s)), (2, .int (zI t))] rfl ?_
  have n40 := T.2.1
  refine x_aload_n dx_M_partsAlike_0 rfl rfl ?_
  refine x_get fa_M_31 dx_M_partsAlike_1 (by decide) rfl rfl ?_
  refine x_iload_n dx_M_partsAlike_4 rfl rfl ?_
  refine x_iald dx_M_partsAlike_5 (by decide) rfl (by omega) (by omega) (by decide) ?_
  refine x_istore_n dx_M_partsAlike_6 rfl (by decide) ?_
  refine x_aload_n dx_M_partsAlike_7 rfl rfl ?_
  refine x_get fa_M_31 dx_M_partsAlike_8 (by decide) rfl rfl ?_
  refine x_iload_n dx_M_partsAlike_11 rfl rfl ?_
  refine x_iald dx_M_partsAlike_12 (by decide) rfl (by omega) (by omega) (by decide) ?_
  refine x_istore dx_M_partsAlike_13 (by decide) ?_
  refine x_iload_n dx_M_partsAlike_15 rfl rfl ?_
  refine x_if_lt (tgt := 89) dx_M_partsAlike_16 (by decide) (by first | exact hs.2.1 _ _ | exact hs.1 _ | exact ⟨by omega, by omega⟩) (fun h16 => ?_) (fun h16 => ?_)
  ·
    refine x_iconst dx_M_partsAlike_89 ?_
    refine x_goto (tgt := 94) dx_M_partsAlike_90 (by decide) ?_
    first
      | exact hret _ _ _ _ ⟨K0, rfl⟩ rfl dx_M_partsAlike_94
      | exact hret _ _ _ _ ⟨bz_t (Or.inr ⟨K1, K2⟩), rfl⟩ rfl dx_M_partsAlike_94
      | exact hret _ _ _ _ ⟨bz_t (Or.inl (by omega)), rfl⟩ rfl dx_M_partsAlike_94
  ·
    have n1 : σ.2.1 8 s ≠ -1 := by omega
    obtain ⟨n2, k1, k2⟩ := hk n1
    have ia : In n (σ.2.1 8 s) := ha.resolve_left n1
    have ib : In n (σ.2.1 8 t) := hb.resolve_left n2
    have ra := rt_x T hT ia
    have rb := rt_x T hT ib
    have fe := T.fa_eq ia ib k1 k2
    refine x_aload_n dx_M_partsAlike_19 rfl rfl ?_
    refine x_get fa_M_13 dx_M_partsAlike_20 (by decide) rfl rfl ?_
    refine x_iload_n dx_M_partsAlike_23 rfl rfl ?_
    refine x_iald dx_M_partsAlike_24 (by decide) rfl (by omega) (by omega) (by decide) ?_
    refine x_iconst dx_M_partsAlike_25 ?_
    refine x_icmp_lt (tgt := 54) dx_M_partsAlike_26 (by decide) (by first | exact hs.2.1 _ _ | exact hs.1 _ | exact ⟨by omega, by omega⟩) (by first | exact hs.2.1 _ _ | exact hs.1 _ | exact ⟨by omega, by omega⟩) (fun h26 => ?_) (fun h26 => ?_)
    ·
      have K1 : fa (σ.2.1 8 s) = -1 ∨ σ.2.1 12 (40 * fa (σ.2.1 8 s) + fa (σ.2.1 8 t)) ≠ 0 := Or.inl (Classical.byContradiction fun q => by have := ra.2.1.mpr q; omega)
      refine x_aload_n dx_M_partsAlike_54 rfl rfl ?_
      refine x_get fa_M_13 dx_M_partsAlike_55 (by decide) rfl rfl ?_
      refine x_iload_n dx_M_partsAlike_58 rfl rfl ?_
      refine x_iald dx_M_partsAlike_59 (by decide) rfl (by omega) (by omega) (by decide) ?_
      refine x_iconst dx_M_partsAlike_60 ?_
      refine x_icmp_lt (tgt := 89) dx_M_partsAlike_61 (by decide) (by first | exact hs.2.1 _ _ | exact hs.1 _ | exact ⟨by omega, by omega⟩) (by first | exact hs.2.1 _ _ | exact hs.1 _ | exact ⟨by omega, by omega⟩) (fun h61 => ?_) (fun h61 => ?_)
      ·
        have K2 : sa (σ.2.1 8 s) = -1 ∨ σ.2.1 12 (40 * sa (σ.2.1 8 s) + sa (σ.2.1 8 t)) ≠ 0 := Or.inl (Classical.byContradiction fun q => by have := ra.2.2.1.mpr q; omega)
        refine x_iconst dx_M_partsAlike_89 ?_
        refine x_goto (tgt := 94) dx_M_partsAlike_90 (by decide) ?_
        first
          | exact hret _ _ _ _ ⟨K0, rfl⟩ rfl dx_M_partsAlike_94
          | exact hret _ _ _ _ ⟨bz_t (Or.inr ⟨K1, K2⟩), rfl⟩ rfl dx_M_partsAlike_94
          | exact hret _ _ _ _ ⟨bz_t (Or.inl (by omega)), rfl⟩ rfl dx_M_partsAlike_94
      ·
        have f2 : sa (σ.2.1 8 s) ≠ -1 := ra.2.2.1.mp (by omega)
        have f29 : sa (σ.2.1 8 t) ≠ -1 := fun q => f2 (fe.2.mpr q)
        have i2 := T.sa_in ia f2
        have j2 := T.sa_in ib f29
        have r2 : σ.2.1 4 (σ.2.1 8 s) = sa (σ.2.1 8 s) := ra.2.2.2.2
        have s2 : σ.2.1 4 (σ.2.1 8 t) = sa (σ.2.1 8 t) := rb.2.2.2.2
        refine x_aload_n dx_M_partsAlike_64 rfl rfl ?_
        refine x_get fa_M_44 dx_M_partsAlike_65 (by decide) rfl rfl ?_
        refine x_bipush dx_M_partsAlike_68 (by decide) ?_
        refine x_aload_n dx_M_partsAlike_70 rfl rfl ?_
        refine x_get fa_M_19 dx_M_partsAlike_71 (by decide) rfl rfl ?_
        refine x_iload_n dx_M_partsAlike_74 rfl rfl ?_
        refine x_iald dx_M_partsAlike_75 (by decide) rfl (by omega) (by omega) (by decide) ?_
        refine x_imul dx_M_partsAlike_76 ?_
        refine x_aload_n dx_M_partsAlike_77 rfl rfl ?_
        refine x_get fa_M_19 dx_M_partsAlike_78 (by decide) rfl rfl ?_
        refine x_iload dx_M_partsAlike_81 rfl ?_
        refine x_iald dx_M_partsAlike_83 (by decide) rfl (by omega) (by omega) (by decide) ?_
        refine x_iadd dx_M_partsAlike_84 ?_
        refine x_zald dx_M_partsAlike_85 (by decide) rfl (show (0 : Int) ≤ 40 * σ.2.1 4 (σ.2.1 8 s) + σ.2.1 4 (σ.2.1 8 t) by omega) (show 40 * σ.2.1 4 (σ.2.1 8 s) + σ.2.1 4 (σ.2.1 8 t) < ((1600 : Nat) : Int) by omega) (by decide) ?_
        refine x_if_eq (tgt := 93) dx_M_partsAlike_86 (by decide) (by first | exact hs.2.1 _ _ | exact hs.1 _ | exact ⟨by omega, by omega⟩) (fun h86 => ?_) (fun h86 => ?_)
        ·
          have h86 : σ.2.1 12 (40 * σ.2.1 4 (σ.2.1 8 s) + σ.2.1 4 (σ.2.1 8 t)) = 0 := h86
          rw [r2, s2] at h86
          have K0 : bz (PAL fa sa (σ.2.1 8) (σ.2.1 12) s t) = 0 := bz_f (fun q => ((q.resolve_left n1).2.resolve_left f2) h86)
          refine x_iconst dx_M_partsAlike_93 ?_
          first
            | exact hret _ _ _ _ ⟨K0, rfl⟩ rfl dx_M_partsAlike_94
            | exact hret _ _ _ _ ⟨bz_t (Or.inr ⟨K1, K2⟩), rfl⟩ rfl dx_M_partsAlike_94
            | exact hret _ _ _ _ ⟨bz_t (Or.inl (by omega)), rfl⟩ rfl dx_M_partsAlike_94
        ·
          have h86 : σ.2.1 12 (40 * σ.2.1 4 (σ.2.1 8 s) + σ.2.1 4 (σ.2.1 8 t)) ≠ 0 := h86
          rw [r2, s2] at h86
          have K2 : sa (σ.2.1 8 s) = -1 ∨ σ.2.1 12 (40 * sa (σ.2.1 8 s) + sa (σ.2.1 8 t)) ≠ 0 := Or.inr h86
          refine x_iconst dx_M_partsAlike_89 ?_
          refine x_goto (tgt := 94) dx_M_partsAlike_90 (by decide) ?_
          first
            | exact hret _ _ _ _ ⟨K0, rfl⟩ rfl dx_M_partsAlike_94
            | exact hret _ _ _ _ ⟨bz_t (Or.inr ⟨K1, K2⟩), rfl⟩ rfl dx_M_partsAlike_94
            | exact hret _ _ _ _ ⟨bz_t (Or.inl (by omega)), rfl⟩ rfl dx_M_partsAlike_94
    ·
      have f1 : fa (σ.2.1 8 s) ≠ -1 := ra.2.1.mp (by omega)
      have f19 : fa (σ.2.1 8 t) ≠ -1 := fun q => f1 (fe.1.mpr q)
      have i1 := T.fa_in ia f1
      have j1 := T.fa_in ib f19
      have r1 : σ.2.1 3 (σ.2.1 8 s) = fa (σ.2.1 8 s) := ra.2.2.2.1
      have s1 : σ.2.1 3 (σ.2.1 8 t) = fa (σ.2.1 8 t) := rb.2.2.2.1
      refine x_aload_n dx_M_partsAlike_29 rfl rfl ?_
      refine x_get fa_M_44 dx_M_partsAlike_30 (by decide) rfl rfl ?_
      refine x_bipush dx_M_partsAlike_33 (by decide) ?_
      refine x_aload_n dx_M_partsAlike_35 rfl rfl ?_
      refine x_get fa_M_16 dx_M_partsAlike_36 (by decide) rfl rfl ?_
      refine x_iload_n dx_M_partsAlike_39 rfl rfl ?_
      refine x_iald dx_M_partsAlike_40 (by decide) rfl (by omega) (by omega) (by decide) ?_
      refine x_imul dx_M_partsAlike_41 ?_
      refine x_aload_n dx_M_partsAlike_42 rfl rfl ?_
      refine x_get fa_M_16 dx_M_partsAlike_43 (by decide) rfl rfl ?_
      refine x_iload dx_M_partsAlike_46 rfl ?_
      refine x_iald dx_M_partsAlike_48 (by decide) rfl (by omega) (by omega) (by decide) ?_
      refine x_iadd dx_M_partsAlike_49 ?_
      refine x_zald dx_M_partsAlike_50 (by decide) rfl (show (0 : Int) ≤ 40 * σ.2.1 3 (σ.2.1 8 s) + σ.2.1 3 (σ.2.1 8 t) by omega) (show 40 * σ.2.1 3 (σ.2.1 8 s) + σ.2.1 3 (σ.2.1 8 t) < ((1600 : Nat) : Int) by omega) (by decide) ?_
      refine x_if_eq (tgt := 93) dx_M_partsAlike_51 (by decide) (by first | exact hs.2.1 _ _ | exact hs.1 _ | exact ⟨by omega, by omega⟩) (fun h51 => ?_) (fun h51 => ?_)
      ·
        have h51 : σ.2.1 12 (40 * σ.2.1 3 (σ.2.1 8 s) + σ.2.1 3 (σ.2.1 8 t)) = 0 := h51
        rw [r1, s1] at h51
        have K0 : bz (PAL fa sa (σ.2.1 8) (σ.2.1 12) s t) = 0 := bz_f (fun q => ((q.resolve_left n1).1.resolve_left f1) h51)
        refine x_iconst dx_M_partsAlike_93 ?_
        first
          | exact hret _ _ _ _ ⟨K0, rfl⟩ rfl dx_M_partsAlike_94
          | exact hret _ _ _ _ ⟨bz_t (Or.inr ⟨K1, K2⟩), rfl⟩ rfl dx_M_partsAlike_94
          | exact hret _ _ _ _ ⟨bz_t (Or.inl (by omega)), rfl⟩ rfl dx_M_partsAlike_94
      ·
        have h51 : σ.2.1 12 (40 * σ.2.1 3 (σ.2.1 8 s) + σ.2.1 3 (σ.2.1 8 t)) ≠ 0 := h51
        rw [r1, s1] at h51
        have K1 : fa (σ.2.1 8 s) = -1 ∨ σ.2.1 12 (40 * fa (σ.2.1 8 s) + fa (σ.2.1 8 t)) ≠ 0 := Or.inr h51
        refine x_aload_n dx_M_partsAlike_54 rfl rfl ?_
        refine x_get fa_M_13 dx_M_partsAlike_55 (by decide) rfl rfl ?_
        refine x_iload_n dx_M_partsAlike_58 rfl rfl ?_
        refine x_iald dx_M_partsAlike_59 (by decide) rfl (by omega) (by omega) (by decide) ?_
        refine x_iconst dx_M_partsAlike_60 ?_
        refine x_icmp_lt (tgt := 89) dx_M_partsAlike_61 (by decide) (by first | exact hs.2.1 _ _ | exact hs.1 _ | exact ⟨by omega, by omega⟩) (by first | exact hs.2.1 _ _ | exact hs.1 _ | exact ⟨by omega, by omega⟩) (fun h61 => ?_) (fun h61 => ?_)
        ·
          have K2 : sa (σ.2.1 8 s) = -1 ∨ σ.2.1 12 (40 * sa (σ.2.1 8 s) + sa (σ.2.1 8 t)) ≠ 0 := Or.inl (Classical.byContradiction fun q => by have := ra.2.2.1.mpr q; omega)
          refine x_iconst dx_M_partsAlike_89 ?_
          refine x_goto (tgt := 94) dx_M_partsAlike_90 (by decide) ?_
          first
            | exact hret _ _ _ _ ⟨K0, rfl⟩ rfl dx_M_partsAlike_94
            | exact hret _ _ _ _ ⟨bz_t (Or.inr ⟨K1, K2⟩), rfl⟩ rfl dx_M_partsAlike_94
            | exact hret _ _ _ _ ⟨bz_t (Or.inl (by omega)), rfl⟩ rfl dx_M_partsAlike_94
        ·
          have f2 : sa (σ.2.1 8 s) ≠ -1 := ra.2.2.1.mp (by omega)
          have f29 : sa (σ.2.1 8 t) ≠ -1 := fun q => f2 (fe.2.mpr q)
          have i2 := T.sa_in ia f2
          have j2 := T.sa_in ib f29
          have r2 : σ.2.1 4 (σ.2.1 8 s) = sa (σ.2.1 8 s) := ra.2.2.2.2
          have s2 : σ.2.1 4 (σ.2.1 8 t) = sa (σ.2.1 8 t) := rb.2.2.2.2
          refine x_aload_n dx_M_partsAlike_64 rfl rfl ?_
          refine x_get fa_M_44 dx_M_partsAlike_65 (by decide) rfl rfl ?_
          refine x_bipush dx_M_partsAlike_68 (by decide) ?_
          refine x_aload_n dx_M_partsAlike_70 rfl rfl ?_
          refine x_get fa_M_19 dx_M_partsAlike_71 (by decide) rfl rfl ?_
          refine x_iload_n dx_M_partsAlike_74 rfl rfl ?_
          refine x_iald dx_M_partsAlike_75 (by decide) rfl (by omega) (by omega) (by decide) ?_
          refine x_imul dx_M_partsAlike_76 ?_
          refine x_aload_n dx_M_partsAlike_77 rfl rfl ?_
          refine x_get fa_M_19 dx_M_partsAlike_78 (by decide) rfl rfl ?_
          refine x_iload dx_M_partsAlike_81 rfl ?_
          refine x_iald dx_M_partsAlike_83 (by decide) rfl (by omega) (by omega) (by decide) ?_
          refine x_iadd dx_M_partsAlike_84 ?_
          refine x_zald dx_M_partsAlike_85 (by decide) rfl (show (0 : Int) ≤ 40 * σ.2.1 4 (σ.2.1 8 s) + σ.2.1 4 (σ.2.1 8 t) by omega) (show 40 * σ.2.1 4 (σ.2.1 8 s) + σ.2.1 4 (σ.2.1 8 t) < ((1600 : Nat) : Int) by omega) (by decide) ?_
          refine x_if_eq (tgt := 93) dx_M_partsAlike_86 (by decide) (by first | exact hs.2.1 _ _ | exact hs.1 _ | exact ⟨by omega, by omega⟩) (fun h86 => ?_) (fun h86 => ?_)
          ·
            have h86 : σ.2.1 12 (40 * σ.2.1 4 (σ.2.1 8 s) + σ.2.1 4 (σ.2.1 8 t)) = 0 := h86
            rw [r2, s2] at h86
            have K0 : bz (PAL fa sa (σ.2.1 8) (σ.2.1 12) s t) = 0 := bz_f (fun q => ((q.resolve_left n1).2.resolve_left f2) h86)
            refine x_iconst dx_M_partsAlike_93 ?_
            first
              | exact hret _ _ _ _ ⟨K0, rfl⟩ rfl dx_M_partsAlike_94
              | exact hret _ _ _ _ ⟨bz_t (Or.inr ⟨K1, K2⟩), rfl⟩ rfl dx_M_partsAlike_94
              | exact hret _ _ _ _ ⟨bz_t (Or.inl (by omega)), rfl⟩ rfl dx_M_partsAlike_94
          ·
            have h86 : σ.2.1 12 (40 * σ.2.1 4 (σ.2.1 8 s) + σ.2.1 4 (σ.2.1 8 t)) ≠ 0 := h86
            rw [r2, s2] at h86
            have K2 : sa (σ.2.1 8 s) = -1 ∨ σ.2.1 12 (40 * sa (σ.2.1 8 s) + sa (σ.2.1 8 t)) ≠ 0 := Or.inr h86
            refine x_iconst dx_M_partsAlike_89 ?_
            refine x_goto (tgt := 94) dx_M_partsAlike_90 (by decide) ?_
            first
              | exact hret _ _ _ _ ⟨K0, rfl⟩ rfl dx_M_partsAlike_94
              | exact hret _ _ _ _ ⟨bz_t (Or.inr ⟨K1, K2⟩), rfl⟩ rfl dx_M_partsAlike_94
              | exact hret _ _ _ _ ⟨bz_t (Or.inl (by omega)), rfl⟩ rfl dx_M_partsAlike_94
set_option maxRecDepth 100000 in
set_option maxHeartbeats 4000000 in
theorem c_M_prepare {l : Launch} {D : va_G} {ca : Nat → ClassId} {ad : Nat → Nat} {σ : S0} {kd fa sa row : Int → Int} {w : S0} {val : Int → Int} (hs : Ok σ) (T : Tb (σ.1 2) kd fa sa) (hT : RT σ (σ.1 2) kd fa sa) (hE0 : 0 ≤ σ.1 3) (h20 : σ.1 3 ≤ 20) (he : ∀ i, 0 ≤ i → i < σ.1 3 → In (σ.1 2) (σ.2.1 5 i) ∧ In (σ.1 2) (σ.2.1 6 i)) (hq : RowC (σ.1 2) kd fa sa row (RR σ kd fa sa) ∧ KV (σ.1 2) kd fa sa row w val) (hv : ∀ x, In (σ.1 2) x → val x ≠ -1) (hD : DV w) (hr : σ.1 4 = 0 ∨ (σ.1 4 = 1 ∧ PREP σ kd fa sa w val)) : CV l mn_M_prepare kw_M_prepare (rmk 4) D ca [.ref (ad 0)] (wg 16 LM ca ad σ) (fun u => FPr σ u ∧ Ok u ∧ u.1 4 = 1 ∧ PREP u kd fa sa w val) (wg 16 LM ca ad) := by
  refine cv_in rc_M cd_M_prepare 4 rfl rfl (by decide) (Nat.le_of_ble_eq_true rfl) (fun κ h1 h2 h3 hret => ?_)
  subst h1; subst h2; subst h3
  refine x_lv [(0, .ref (ad 0))] rfl ?_
  have n40 := T.2.1
  refine x_aload_n dx_M_prepare_0 rfl rfl ?_
  refine x_get fa_M_64 dx_M_prepare_1 (by decide) rfl rfl ?_
  refine x_if_eq (tgt := 8) dx_M_prepare_4 (by decide) (hs.1 4) (fun h4 => ?_) (fun h4 => ?_)
  ·
    refine x_aload_n dx_M_prepare_8 rfl rfl ?_
    refine x_iconst dx_M_prepare_9 ?_
    refine x_put fp_M_64 jo_ready dx_M_prepare_10 (by decide) rfl rfl ?_
    refine x_aload_n dx_M_prepare_13 rfl rfl ?_
    refine x_cvi0 (c_M_solve (σ := stI σ 4 1) (ok_stI hs ⟨by decide, by decide⟩) T hT hE0 h20 he (Or.inr hq)) cf_M_100 ⟨rfl, rfl, by decide, by decide⟩ ⟨Nat.zero_le _, Nat.zero_le _⟩ (wl_get (by decide)) rfl rfl (Nat.le_of_ble_eq_true rfl) dx_M_prepare_14 (fun z v hp => ?_)
    obtain ⟨fs, vo, hp⟩ := hp
    obtain ⟨-, RC, LQ, SO, hz⟩ := hp.resolve_left (fun q => rowc_noclash hq.1 q.2)
    have e1 : v.1 = (stI σ 4 1).1 := fs.1
    have e2 : v.1 2 = σ.1 2 := by rw [e1]; rfl
    have NV := SO.1
    rw [e2] at NV
    have hT2 : RT v (σ.1 2) kd fa sa := rt_fs (σ := stI σ 4 1) hT fs
    have hsh : ∀ s, In (σ.1 2) s → v.2.1 8 s = -1 ∨ In (σ.1 2) (v.2.1 8 s) := fun s i => (nv_all NV hv i).2.imp (fun q => q.1) (fun q => q.1)
    refine x_pop dx_M_prepare_17 rfl ?_
    refine x_iconst dx_M_prepare_18 ?_
    refine x_istore_n dx_M_prepare_19 rfl (by decide) ?_
    refine x_w (w' := wg 16 LM κ.2.2.1.2.2 ad (stR v 12 (v.2.1 12))) (by rw [stR_self]) ?_
    refine x_lv [(0, .ref (ad 0)), (1, .int (zI 0))] rfl ?_
    refine x_loop (fun q : Int × (Int → Int) => X κ (rmk 4) rc_M cd_M_prepare 4 (wg 16 LM κ.2.2.1.2.2 ad (stR v 12 q.2)) 0 0 20 [(0, .ref (ad 0)), (1, .int (zI q.1))] []) (fun q => 0 ≤ q.1 ∧ q.1 ≤ σ.1 2 ∧ RG q.2 ∧ AL0 (σ.1 2) kd (v.2.1 7) (v.2.1 8) q.2 q.1 0) (fun q => (σ.1 2 - q.1).toNat) (fun q hi20 ih20 => ?_) (0, (v.2.1 12)) ⟨Int.le_refl _, T.1, vo.2.1 12, fun s t hs ht ho => by dsimp only at ho; omega⟩
    obtain ⟨x, A0⟩ := q
    dsimp only at hi20 ⊢
    obtain ⟨x0, x1, rA0, al0⟩ := hi20
    refine x_iload_n dx_M_prepare_20 rfl rfl ?_
    refine x_aload_n dx_M_prepare_21 rfl rfl ?_
    refine x_get fa_M_61 dx_M_prepare_22 (by decide) rfl rfl ?_
    refine x_icmp_ge (tgt := 67) dx_M_prepare_25 (by decide) ⟨by omega, by omega⟩ (vo.1 _) (fun h25 => ?_) (fun h25 => ?_)
    ·
      have h25 : v.1 2 ≤ x := h25
      rw [e2] at h25
      refine x_iconst dx_M_prepare_67 ?_
      refine x_istore_n dx_M_prepare_68 rfl (by decide) ?_
      refine x_lv [(0, .ref (ad 0)), (1, .int (zI 1))] rfl ?_
      refine x_loop (fun q : Int × (Int → Int) => X κ (rmk 4) rc_M cd_M_prepare 4 (wg 16 LM κ.2.2.1.2.2 ad (stR v 12 q.2)) 0 0 69 [(0, .ref (ad 0)), (1, .int (zI q.1))] []) (fun q => (q.1 = 0 ∨ q.1 = 1) ∧ RG q.2 ∧ AL1 (σ.1 2) kd (v.2.1 7) (v.2.1 8) val q.2 ∧ (q.1 = 0 → PL1 (σ.1 2) fa sa (v.2.1 8) q.2 (σ.1 2) 0)) (fun q => (2 * asm q.2 + q.1).toNat) (fun q hi69 ih69 => ?_) (1, A0) ⟨Or.inr rfl, rA0, fun s t hs ht => by
      dsimp only
      have e : x = σ.1 2 := Int.le_antisymm x1 h25
      have w9 := al0 s t hs ht (Or.inl (by omega))
      have b9 := bz_01 (BGN kd (v.2.1 7) (v.2.1 8) s t)
      rw [w9]
      exact ⟨by omega, fun q => bz_1 q, fun q => by rw [bz_t (bgn_val NV hv hs ht q)]; decide⟩, fun q => by have q : (1 : Int) = 0 := q; omega⟩
      clear rA0 al0
      obtain ⟨c0, A1⟩ := q
      dsimp only at hi69 ⊢
      obtain ⟨c1, rA1, aa1, pp1⟩ := hi69
      have q1 := asm_le A1
      refine x_iload_n dx_M_prepare_69 rfl rfl ?_
      refine x_if_eq (tgt := 147) dx_M_prepare_70 (by decide) ⟨by omega, by omega⟩ (fun h70 => ?_) (fun h70 => ?_)
      ·
        have h70 : c0 = 0 := h70
        have pl := pp1 h70
        have ok9 := ok_stR (q := 12) vo rA1
        have SO9 : SOL (stR v 12 A1) kd fa sa w val := SO
        refine hret _ _ _ ⟨⟨fun j hj => ?_, fun j hj => ?_⟩, ok9, ?_, SO9, ?_, fun s t i j => ?_⟩ dx_M_prepare_147
        · show v.1 j = σ.1 j
          rw [e1]
          exact uq_ne _ _ hj
        · rw [stR_ne _ _ (by omega)]
          exact fs.2.1 j (by omega)
        · show v.1 4 = 1
          rw [e1]
          rfl
        · have r5 : v.2.1 5 = σ.2.1 5 := fs.2.1 5 (by decide)
          have r6 : v.2.1 6 = σ.2.1 6 := fs.2.1 6 (by decide)
          have r3 : v.1 3 = σ.1 3 := by rw [e1]; rfl
          show ∀ x y, In (v.1 2) x → In (v.1 2) y → (v.2.1 7 x = v.2.1 7 y ↔ clo (v.1 2) kd fa sa (v.2.1 5) (v.2.1 6) (v.1 3) x y)
          rw [e2, r5, r6, r3]
          exact LQ
        · show A1 (40 * s + t) = bz (val s = val t)
          have i : In (v.1 2) s := i
          have j : In (v.1 2) t := j
          rw [e2] at i j
          obtain ⟨z1, z2, z3⟩ := aa1 s t i j
          by_cases c : val s = val t
          · rw [bz_t c]; exact z1.resolve_left (z3 c)
          · rw [bz_f c]
            refine z1.resolve_right (fun q => c ?_)
            exact bis_val T NV hv hD (fun s t i j q => ⟨(aa1 s t i j).2.1 q, pl s t i j (Or.inl i.2) q⟩) _ s t i j (by rw [q]; decide) (Nat.lt_succ_self _)
      ·
        refine x_iconst dx_M_prepare_73 ?_
        refine x_istore_n dx_M_prepare_74 rfl (by decide) ?_
        refine x_iconst dx_M_prepare_75 ?_
        refine x_istore_n dx_M_prepare_76 rfl (by decide) ?_
        refine x_lv [(0, .ref (ad 0)), (1, .int (zI 0)), (2, .int (zI 0))] rfl ?_
        refine x_loop (fun p : Int × Int × (Int → Int) => X κ (rmk 4) rc_M cd_M_prepare 4 (wg 16 LM κ.2.2.1.2.2 ad (stR v 12 p.2.2)) 0 0 77 [(0, .ref (ad 0)), (1, .int (zI p.2.1)), (2, .int (zI p.1))] []) (fun p => 0 ≤ p.1 ∧ p.1 ≤ σ.1 2 ∧ RG p.2.2 ∧ AL1 (σ.1 2) kd (v.2.1 7) (v.2.1 8) val p.2.2 ∧ ((p.2.1 = 0 ∧ p.2.2 = A1 ∧ PL1 (σ.1 2) fa sa (v.2.1 8) A1 p.1 0) ∨ (p.2.1 = 1 ∧ asm p.2.2 < asm A1))) (fun p => (σ.1 2 - p.1).toNat) (fun p hi77 ih77 => ?_) (0, 0, A1) ⟨Int.le_refl _, T.1, rA1, aa1, Or.inl ⟨rfl, rfl, fun s t hs ht ho => by dsimp only at ho; omega⟩⟩
        obtain ⟨x, c, A0⟩ := p
        dsimp only at hi77 ⊢
        obtain ⟨x0, x1, rA0, a0, cs0⟩ := hi77
        refine x_iload_n dx_M_prepare_77 rfl rfl ?_
        refine x_aload_n dx_M_prepare_78 rfl rfl ?_
        refine x_get fa_M_61 dx_M_prepare_79 (by decide) rfl rfl ?_
        refine x_icmp_ge (tgt := 144) dx_M_prepare_82 (by decide) ⟨by omega, by omega⟩ (vo.1 _) (fun h82 => ?_) (fun h82 => ?_)
        ·
          have h82 : v.1 2 ≤ x := h82
          rw [e2] at h82
          refine x_goto (tgt := 69) dx_M_prepare_144 (by decide) ?_
          have e : x = σ.1 2 := Int.le_antisymm x1 h82
          refine x_lv [(0, .ref (ad 0)), (1, .int (zI c))] rfl ?_
          exact ih69 (c, A0) ⟨by dsimp only; rcases cs0 with q | q <;> omega, rA0, a0, fun q => by
                                                            dsimp only at q ⊢
                                                            rcases cs0 with ⟨-, c3, c4⟩ | ⟨c2, -⟩
                                                            · rw [c3]; rw [e] at c4; exact c4
                                                            · omega⟩ (by
                                                            dsimp only
                                                            have q2 := asm_le A0
                                                            rcases cs0 with ⟨c2, c3, -⟩ | ⟨c2, c3⟩
                                                            · rw [c3]; omega
                                                            · omega)
        ·
          have h82 : x < v.1 2 := h82
          rw [e2] at h82
          have ix : In (σ.1 2) x := ⟨x0, h82⟩
          refine x_iconst dx_M_prepare_85 ?_
          refine x_istore_n dx_M_prepare_86 rfl (by decide) ?_
          refine x_lv [(0, .ref (ad 0)), (1, .int (zI c)), (2, .int (zI x)), (3, .int (zI 0))] rfl ?_
          refine x_loop (fun r : Int × Int × (Int → Int) => X κ (rmk 4) rc_M cd_M_prepare 4 (wg 16 LM κ.2.2.1.2.2 ad (stR v 12 r.2.2)) 0 0 87 [(0, .ref (ad 0)), (1, .int (zI r.2.1)), (2, .int (zI x)), (3, .int (zI r.1))] []) (fun r => 0 ≤ r.1 ∧ r.1 ≤ σ.1 2 ∧ RG r.2.2 ∧ AL1 (σ.1 2) kd (v.2.1 7) (v.2.1 8) val r.2.2 ∧ ((r.2.1 = 0 ∧ r.2.2 = A1 ∧ PL1 (σ.1 2) fa sa (v.2.1 8) A1 x r.1) ∨ (r.2.1 = 1 ∧ asm r.2.2 < asm A1))) (fun r => (σ.1 2 - r.1).toNat) (fun r hi87 ih87 => ?_) (0, c, A0) ⟨Int.le_refl _, T.1, rA0, a0, cs0⟩
          obtain ⟨y, d, A⟩ := r
          dsimp only at hi87 ⊢
          obtain ⟨y0, y1, rA, a1, cs⟩ := hi87
          refine x_iload_n dx_M_prepare_87 rfl rfl ?_
          refine x_aload_n dx_M_prepare_88 rfl rfl ?_
          refine x_get fa_M_61 dx_M_prepare_89 (by decide) rfl rfl ?_
          refine x_icmp_ge (tgt := 138) dx_M_prepare_92 (by decide) ⟨by omega, by omega⟩ (vo.1 _) (fun h92 => ?_) (fun h92 => ?_)
          ·
            have h92 : v.1 2 ≤ y := h92
            rw [e2] at h92
            refine x_iinc dx_M_prepare_138 rfl (by decide) ?_
            refine x_goto (tgt := 77) dx_M_prepare_141 (by decide) ?_
            have e : y = σ.1 2 := Int.le_antisymm y1 h92
            refine x_lv [(0, .ref (ad 0)), (1, .int (zI d)), (2, .int (zI (x + 1)))] rfl ?_
            exact ih77 ((x + 1), d, A) ⟨by dsimp only; omega, by dsimp only; omega, rA, a1, cs.imp (fun q => ⟨q.1, q.2.1, pl1_row (by have z := q.2.2; rw [e] at z; exact z)⟩) id⟩ (by dsimp only; omega)
          ·
            have h92 : y < v.1 2 := h92
            rw [e2] at h92
            have iy : In (σ.1 2) y := ⟨y0, h92⟩
            refine x_aload_n dx_M_prepare_95 rfl rfl ?_
            refine x_get fa_M_44 dx_M_prepare_96 (by decide) rfl rfl ?_
            refine x_bipush dx_M_prepare_99 (by decide) ?_
            refine x_iload_n dx_M_prepare_101 rfl rfl ?_
            refine x_imul dx_M_prepare_102 ?_
            refine x_iload_n dx_M_prepare_103 rfl rfl ?_
            refine x_iadd dx_M_prepare_104 ?_
            refine x_zald dx_M_prepare_105 (by decide) rfl (show (0 : Int) ≤ 40 * x + y by omega) (show 40 * x + y < ((1600 : Nat) : Int) by omega) (by decide) ?_
            refine x_if_eq (tgt := 132) dx_M_prepare_106 (by decide) (rA _) (fun h106 => ?_) (fun h106 => ?_)
            ·
              have h106 : A (40 * x + y) = 0 := h106
              have K7 : A (40 * x + y) ≠ 0 → PAL fa sa (v.2.1 8) A x y := fun q => absurd h106 q
              refine x_iinc dx_M_prepare_132 rfl (by decide) ?_
              refine x_goto (tgt := 87) dx_M_prepare_135 (by decide) ?_
              first
                | refine x_w (congrArg (wg 16 LM κ.2.2.1.2.2 ad) (stF_stR v 12 A (40 * x + y) 0)) ?_
                | skip
              first
                | (refine x_lv [(0, .ref (ad 0)), (1, .int (zI d)), (2, .int (zI x)), (3, .int (zI (y + 1)))] rfl ?_; exact ih87 ((y + 1), d, A) ⟨by dsimp only; omega, by dsimp only; omega, rA, a1, cs.imp (fun q => ⟨q.1, q.2.1, pl1_next q.2.2 (fun z => by rw [← q.2.1] at z ⊢; exact K7 z)⟩) id⟩ (by dsimp only; omega))
                | (refine x_lv [(0, .ref (ad 0)), (1, .int (zI 1)), (2, .int (zI x)), (3, .int (zI (y + 1)))] rfl ?_; exact ih87 ((y + 1), 1, (ui A (40 * x + y) 0)) ⟨by dsimp only; omega, by dsimp only; omega, ui_rg rA ⟨by decide, by decide⟩, K8.1, Or.inr ⟨rfl, K9⟩⟩ (by dsimp only; omega))
            ·
              have h106 : A (40 * x + y) ≠ 0 := h106
              refine x_aload_n dx_M_prepare_109 rfl rfl ?_
              refine x_iload_n dx_M_prepare_110 rfl rfl ?_
              refine x_iload_n dx_M_prepare_111 rfl rfl ?_
              refine x_cvi2 (c_M_partsAlike (n := σ.1 2) (kd := kd) (fa := fa) (sa := sa) (ok_stR vo rA) T hT2 ix iy (hsh x ix) (hsh y iy) (fun q => by
        have B := ((a1 x y ix iy).2.1 h106).resolve_left (fun z => q z.1)
        have C := ((nv_all NV hv ix).2.resolve_left (fun z => q z.1)).2.1
        exact ⟨B.2.1, C, B.2.2⟩)) cf_M_106 ⟨rfl, rfl, by decide, by decide⟩ ⟨Nat.zero_le _, Nat.zero_le _⟩ (wl_get (by decide)) rfl rfl (Nat.le_of_ble_eq_true rfl) dx_M_prepare_112 (fun z u hp => ?_)
              obtain ⟨rfl, rfl⟩ := hp
              refine x_ifb_ne (tgt := 132) dx_M_prepare_115 (by decide) (fun h115 => ?_) (fun h115 => ?_)
              ·
                have h115 : PAL fa sa (v.2.1 8) A x y := h115
                have K7 : A (40 * x + y) ≠ 0 → PAL fa sa (v.2.1 8) A x y := fun _ => h115
                refine x_iinc dx_M_prepare_132 rfl (by decide) ?_
                refine x_goto (tgt := 87) dx_M_prepare_135 (by decide) ?_
                first
                  | refine x_w (congrArg (wg 16 LM κ.2.2.1.2.2 ad) (stF_stR v 12 A (40 * x + y) 0)) ?_
                  | skip
                first
                  | (refine x_lv [(0, .ref (ad 0)), (1, .int (zI d)), (2, .int (zI x)), (3, .int (zI (y + 1)))] rfl ?_; exact ih87 ((y + 1), d, A) ⟨by dsimp only; omega, by dsimp only; omega, rA, a1, cs.imp (fun q => ⟨q.1, q.2.1, pl1_next q.2.2 (fun z => by rw [← q.2.1] at z ⊢; exact K7 z)⟩) id⟩ (by dsimp only; omega))
                  | (refine x_lv [(0, .ref (ad 0)), (1, .int (zI 1)), (2, .int (zI x)), (3, .int (zI (y + 1)))] rfl ?_; exact ih87 ((y + 1), 1, (ui A (40 * x + y) 0)) ⟨by dsimp only; omega, by dsimp only; omega, ui_rg rA ⟨by decide, by decide⟩, K8.1, Or.inr ⟨rfl, K9⟩⟩ (by dsimp only; omega))
              ·
                have h115 : ¬ PAL fa sa (v.2.1 8) A x y := h115
                have K8 := al1_cut n40 a1 ix iy h106 (fun q => h115 (pal_val T NV hv (fun s t i j q => (a1 s t i j).2.2 q) ix iy q))
                have K9 : asm (ui A (40 * x + y) 0) < asm A1 := by
                  rcases cs with ⟨-, q, -⟩ | ⟨-, q⟩
                  · rw [← q]; exact K8.2
                  · have := K8.2; omega
                refine x_aload_n dx_M_prepare_118 rfl rfl ?_
                refine x_get fa_M_44 dx_M_prepare_119 (by decide) rfl rfl ?_
                refine x_bipush dx_M_prepare_122 (by decide) ?_
                refine x_iload_n dx_M_prepare_124 rfl rfl ?_
                refine x_imul dx_M_prepare_125 ?_
                refine x_iload_n dx_M_prepare_126 rfl rfl ?_
                refine x_iadd dx_M_prepare_127 ?_
                refine x_iconst dx_M_prepare_128 ?_
                refine x_zast dx_M_prepare_129 (by decide) rfl (show (0 : Int) ≤ 40 * x + y by omega) (show 40 * x + y < ((1600 : Nat) : Int) by omega) (by decide) (by decide) ?_
                refine x_iconst dx_M_prepare_130 ?_
                refine x_istore_n dx_M_prepare_131 rfl (by decide) ?_
                refine x_iinc dx_M_prepare_132 rfl (by decide) ?_
                refine x_goto (tgt := 87) dx_M_prepare_135 (by decide) ?_
                first
                  | refine x_w (congrArg (wg 16 LM κ.2.2.1.2.2 ad) (stF_stR v 12 A (40 * x + y) 0)) ?_
                  | skip
                first
                  | (refine x_lv [(0, .ref (ad 0)), (1, .int (zI d)), (2, .int (zI x)), (3, .int (zI (y + 1)))] rfl ?_; exact ih87 ((y + 1), d, A) ⟨by dsimp only; omega, by dsimp only; omega, rA, a1, cs.imp (fun q => ⟨q.1, q.2.1, pl1_next q.2.2 (fun z => by rw [← q.2.1] at z ⊢; exact K7 z)⟩) id⟩ (by dsimp only; omega))
                  | (refine x_lv [(0, .ref (ad 0)), (1, .int (zI 1)), (2, .int (zI x)), (3, .int (zI (y + 1)))] rfl ?_; exact ih87 ((y + 1), 1, (ui A (40 * x + y) 0)) ⟨by dsimp only; omega, by dsimp only; omega, ui_rg rA ⟨by decide, by decide⟩, K8.1, Or.inr ⟨rfl, K9⟩⟩ (by dsimp only; omega))
    ·
      have h25 : x < v.1 2 := h25
      rw [e2] at h25
      have ix : In (σ.1 2) x := ⟨x0, h25⟩
      refine x_iconst dx_M_prepare_28 ?_
      refine x_istore_n dx_M_prepare_29 rfl (by decide) ?_
      refine x_lv [(0, .ref (ad 0)), (1, .int (zI x)), (2, .int (zI 0))] rfl ?_
      refine x_loop (fun p : Int × (Int → Int) => X κ (rmk 4) rc_M cd_M_prepare 4 (wg 16 LM κ.2.2.1.2.2 ad (stR v 12 p.2)) 0 0 30 [(0, .ref (ad 0)), (1, .int (zI x)), (2, .int (zI p.1))] []) (fun p => 0 ≤ p.1 ∧ p.1 ≤ σ.1 2 ∧ RG p.2 ∧ AL0 (σ.1 2) kd (v.2.1 7) (v.2.1 8) p.2 x p.1) (fun p => (σ.1 2 - p.1).toNat) (fun p hi30 ih30 => ?_) (0, A0) ⟨Int.le_refl _, T.1, rA0, al0⟩
      obtain ⟨y, A⟩ := p
      dsimp only at hi30 ⊢
      obtain ⟨y0, y1, rA, al⟩ := hi30
      refine x_iload_n dx_M_prepare_30 rfl rfl ?_
      refine x_aload_n dx_M_prepare_31 rfl rfl ?_
      refine x_get fa_M_61 dx_M_prepare_32 (by decide) rfl rfl ?_
      refine x_icmp_ge (tgt := 61) dx_M_prepare_35 (by decide) ⟨by omega, by omega⟩ (vo.1 _) (fun h35 => ?_) (fun h35 => ?_)
      ·
        have h35 : v.1 2 ≤ y := h35
        rw [e2] at h35
        refine x_iinc dx_M_prepare_61 rfl (by decide) ?_
        refine x_goto (tgt := 20) dx_M_prepare_64 (by decide) ?_
        have e : y = σ.1 2 := Int.le_antisymm y1 h35
        refine x_lv [(0, .ref (ad 0)), (1, .int (zI (x + 1)))] rfl ?_
        exact ih20 ((x + 1), A) ⟨by dsimp only; omega, by dsimp only; omega, rA, al0_row (by rw [e] at al; exact al)⟩ (by dsimp only; omega)
      ·
        have h35 : y < v.1 2 := h35
        rw [e2] at h35
        have iy : In (σ.1 2) y := ⟨y0, h35⟩
        refine x_aload_n dx_M_prepare_38 rfl rfl ?_
        refine x_get fa_M_44 dx_M_prepare_39 (by decide) rfl rfl ?_
        refine x_bipush dx_M_prepare_42 (by decide) ?_
        refine x_iload_n dx_M_prepare_44 rfl rfl ?_
        refine x_imul dx_M_prepare_45 ?_
        refine x_iload_n dx_M_prepare_46 rfl rfl ?_
        refine x_iadd dx_M_prepare_47 ?_
        refine x_aload_n dx_M_prepare_48 rfl rfl ?_
        refine x_iload_n dx_M_prepare_49 rfl rfl ?_
        refine x_iload_n dx_M_prepare_50 rfl rfl ?_
        refine x_cvi2 (c_M_begins (n := σ.1 2) (kd := kd) (fa := fa) (sa := sa) (ok_stR vo rA) T hT2 ix iy (hsh x ix) (hsh y iy)) cf_M_103 ⟨rfl, rfl, by decide, by decide⟩ ⟨Nat.zero_le _, Nat.zero_le _⟩ (wl_get (by decide)) rfl rfl (Nat.le_of_ble_eq_true rfl) dx_M_prepare_51 (fun z u hp => ?_)
        obtain ⟨rfl, rfl⟩ := hp
        refine x_zast dx_M_prepare_54 (by decide) rfl (show (0 : Int) ≤ 40 * x + y by omega) (show 40 * x + y < ((1600 : Nat) : Int) by omega) (by decide) (nar_bz _) ?_
        refine x_iinc dx_M_prepare_55 rfl (by decide) ?_
        refine x_goto (tgt := 30) dx_M_prepare_58 (by decide) ?_
        refine x_w (congrArg (wg 16 LM κ.2.2.1.2.2 ad) (stF_stR v 12 A (40 * x + y) _)) ?_
        refine x_lv [(0, .ref (ad 0)), (1, .int (zI x)), (2, .int (zI (y + 1)))] rfl ?_
        exact ih30 ((y + 1), (ui A (40 * x + y) (bz (BGN kd (v.2.1 7) (v.2.1 8) x y)))) ⟨by dsimp only; omega, by dsimp only; omega, ui_rg rA (bz_rg _), al0_next n40 al ix iy⟩ (by dsimp only; omega)
  ·
    obtain ⟨r1, r2⟩ := hr.resolve_left h4
    exact hret _ _ _ ⟨⟨fun _ _ => rfl, fun _ _ => rfl⟩, hs, r1, r2⟩ dx_M_prepare_7
