set_option maxRecDepth 100000 in
set_option maxHeartbeats 4000000 in
theorem c_P_isMet {l : Launch} {D : va_G} {ca : Nat → ClassId} {ad : Nat → Nat} {σ : S0} {a b : Int} (hM : MO σ) (ha : In 40 a) (hb : In 40 b) : CI l mn_P_isMet kw_P_isMet (rmk 1) D ca [.ref (ad 4), .int (zI a), .int (zI b)] (wg 82 LT ca ad σ) (fun z u => bz (tb (σ.2.2 19 a) b) = z ∧ σ = u) (wg 82 LT ca ad) := by
  refine ci_in rc_P cd_P_isMet 3 .boolean rfl rfl (by decide) (Nat.le_of_ble_eq_true rfl) (fun κ h1 h2 h3 hret => ?_)
  subst h1; subst h2; subst h3
  refine x_lv [(0, .ref (ad 4)), (1, .int (zI a)), (2, .int (zI b))] rfl ?_
  refine x_aload_n dx_P_isMet_0 rfl rfl ?_
  refine x_get fa_P_15 dx_P_isMet_1 (by decide) rfl rfl ?_
  refine x_iload_n dx_P_isMet_4 rfl rfl ?_
  refine x_lald dx_P_isMet_5 (by decide) rfl (by omega) (by omega) (by decide) ?_
  refine x_iload_n dx_P_isMet_6 rfl rfl ?_
  refine x_lshr dx_P_isMet_7 (shr_zL (hM a ha).1 (hM a ha).2 hb.1 (by omega)) ?_
  refine x_lconst (z := 1) dx_P_isMet_8 (by decide) ?_
  refine x_land dx_P_isMet_9 (and1_zL (Nat.lt_of_le_of_lt (Nat.div_le_self _ _) (p2_40N (hM a ha).1 (hM a ha).2))) ?_
  refine x_lconst (z := 1) dx_P_isMet_10 (by decide) ?_
  refine x_lcmp dx_P_isMet_11 ⟨by omega, by omega⟩ ⟨by decide, by decide⟩ ?_
  refine x_if_ne (tgt := 19) dx_P_isMet_12 (by decide) (zc_rg _ _) (fun h12 => ?_) (fun h12 => ?_)
  ·
    refine x_iconst dx_P_isMet_19 ?_
    exact hret _ _ _ _ ⟨bz_f (fun q => zc_ne0 h12 (tb_iff.mpr q)), rfl⟩ rfl dx_P_isMet_20
  ·
    refine x_iconst dx_P_isMet_15 ?_
    refine x_goto (tgt := 20) dx_P_isMet_16 (by decide) ?_
    exact hret _ _ _ _ ⟨bz_t (tb_iff.mp (zc_eq0 h12)), rfl⟩ rfl dx_P_isMet_20
theorem p2_b {b : Int} (h : In 40 b) : (0 : Int) ≤ 2 ^ b.toNat ∧ (2 : Int) ^ b.toNat < p2 40 := by
  rw [p2_pow]
  have q := p2_le (show b.toNat + 1 ≤ 40 by omega)
  rw [p2_succ] at q
  have q2 := p2_pos b.toNat
  omega
set_option maxRecDepth 100000 in
set_option maxHeartbeats 4000000 in
theorem c_P_meet {l : Launch} {D : va_G} {ca : Nat → ClassId} {ad : Nat → Nat} {σ : S0} {a b t : Int} (hM : MO σ) (ha : a = -1 ∨ In 40 a) (hb : b = -1 ∨ In 40 b) : CV l mn_P_meet kw_P_meet (rmk 2) D ca [.ref (ad 4), .int (zI a), .int (zI b), .long (zL t)] (wg 82 LT ca ad σ) (fun u => mee σ a b t = u) (wg 82 LT ca ad) := by
  refine cv_in rc_P cd_P_meet 5 rfl rfl (by decide) (Nat.le_of_ble_eq_true rfl) (fun κ h1 h2 h3 hret => ?_)
  subst h1; subst h2; subst h3
  refine x_lv [(0, .ref (ad 4)), (1, .int (zI a)), (2, .int (zI b)), (3, .long (zL t))] rfl ?_
  refine x_iload_n dx_P_meet_0 rfl rfl ?_
  refine x_iconst dx_P_meet_1 ?_
  refine x_icmp_eq (tgt := 10) dx_P_meet_2 (by decide) ⟨by omega, by omega⟩ ⟨by decide, by decide⟩ (fun h2 => ?_) (fun h2 => ?_)
  ·
    first
      | exact hret _ _ _ (if_pos (Or.inl h2)) dx_P_meet_10
      | exact hret _ _ _ (if_pos (Or.inr h7)) dx_P_meet_10
  ·
    refine x_iload_n dx_P_meet_5 rfl rfl ?_
    refine x_iconst dx_P_meet_6 ?_
    refine x_icmp_ne (tgt := 11) dx_P_meet_7 (by decide) ⟨by omega, by omega⟩ ⟨by decide, by decide⟩ (fun h7 => ?_) (fun h7 => ?_)
    ·
      have ia : In 40 a := ha.resolve_left h2
      have ib : In 40 b := hb.resolve_left h7
      have hno : ¬ (a = -1 ∨ b = -1) := fun q => q.elim h2 h7
      refine x_aload_n dx_P_meet_11 rfl rfl ?_
      refine x_iload_n dx_P_meet_12 rfl rfl ?_
      refine x_iload_n dx_P_meet_13 rfl rfl ?_
      refine x_cvi2 (c_P_isMet hM ia ib) cf_P_54 ⟨rfl, rfl, by decide, by decide⟩ ⟨Nat.zero_le _, Nat.zero_le _⟩ (wl_get (by decide)) rfl rfl (Nat.le_of_ble_eq_true rfl) dx_P_meet_14 (fun z u hp => ?_)
      obtain ⟨rfl, rfl⟩ := hp
      refine x_ifb_eq (tgt := 35) dx_P_meet_17 (by decide) (fun h17 => ?_) (fun h17 => ?_)
      ·
        refine x_aload_n dx_P_meet_35 rfl rfl ?_
        refine x_get fa_P_15 dx_P_meet_36 (by decide) rfl rfl ?_
        refine x_iload_n dx_P_meet_39 rfl rfl ?_
        refine x_dup2 dx_P_meet_40 rfl rfl ?_
        refine x_lald dx_P_meet_41 (by decide) rfl (by omega) (by omega) (by decide) ?_
        refine x_lconst (z := 1) dx_P_meet_42 (by decide) ?_
        refine x_iload_n dx_P_meet_43 rfl rfl ?_
        refine x_lshl dx_P_meet_44 (shl1_zL ib.1 (by omega)) ?_
        refine x_lor dx_P_meet_45 (orI_zL (hM a ia).1 (hM a ia).2 (p2_b ib).1 (p2_b ib).2) ?_
        refine x_last dx_P_meet_46 (by decide) rfl (by omega) (by omega) (by decide) ?_
        refine x_aload_n dx_P_meet_47 rfl rfl ?_
        refine x_get fa_P_21 dx_P_meet_48 (by decide) rfl rfl ?_
        refine x_iload_n dx_P_meet_51 rfl rfl ?_
        refine x_aald (t0 := 4) dx_P_meet_52 (by decide) rfl rfl rfl (by omega) (by omega) (by decide) ?_
        refine x_iload_n dx_P_meet_53 rfl rfl ?_
        refine x_lload_n dx_P_meet_54 rfl rfl ?_
        refine x_last dx_P_meet_55 (by omega) kT_tim (by omega) (by omega) (by decide) ?_
        first
          | exact hret _ _ _ ((if_neg hno).trans (if_pos h17)) dx_P_meet_56
          | exact hret _ _ _ ((if_neg hno).trans (if_neg h17)) dx_P_meet_56
      ·
        refine x_aload_n dx_P_meet_20 rfl rfl ?_
        refine x_get fa_P_21 dx_P_meet_21 (by decide) rfl rfl ?_
        refine x_iload_n dx_P_meet_24 rfl rfl ?_
        refine x_aald (t0 := 4) dx_P_meet_25 (by decide) rfl rfl rfl (by omega) (by omega) (by decide) ?_
        refine x_iload_n dx_P_meet_26 rfl rfl ?_
        refine x_dup2 dx_P_meet_27 rfl rfl ?_
        refine x_lald dx_P_meet_28 (by omega) kT_tim (by omega) (by omega) (by decide) ?_
        refine x_lload_n dx_P_meet_29 rfl rfl ?_
        refine x_ladd dx_P_meet_30 ?_
        refine x_last dx_P_meet_31 (by omega) kT_tim (by omega) (by omega) (by decide) ?_
        refine x_goto (tgt := 56) dx_P_meet_32 (by decide) ?_
        first
          | exact hret _ _ _ ((if_neg hno).trans (if_pos h17)) dx_P_meet_56
          | exact hret _ _ _ ((if_neg hno).trans (if_neg h17)) dx_P_meet_56
    ·
      first
        | exact hret _ _ _ (if_pos (Or.inl h2)) dx_P_meet_10
        | exact hret _ _ _ (if_pos (Or.inr h7)) dx_P_meet_10
set_option maxRecDepth 100000 in
set_option maxHeartbeats 4000000 in
theorem c_P_meetArguments {l : Launch} {D : va_G} {ca : Nat → ClassId} {ad : Nat → Nat} {σ : S0} {a b : Int} (hM : MO σ) (ha : In 40 a) (hb : In 40 b) (fa : σ.2.1 13 a = -1 ∨ In 40 (σ.2.1 13 a)) (fb : σ.2.1 13 b = -1 ∨ In 40 (σ.2.1 13 b)) (ga : σ.2.1 14 a = -1 ∨ In 40 (σ.2.1 14 a)) (gb : σ.2.1 14 b = -1 ∨ In 40 (σ.2.1 14 b)) : CV l mn_P_meetArguments kw_P_meetArguments (rmk 3) D ca [.ref (ad 4), .int (zI a), .int (zI b)] (wg 82 LT ca ad σ) (fun u => mea σ a b = u) (wg 82 LT ca ad) := by
  refine cv_in rc_P cd_P_meetArguments 3 rfl rfl (by decide) (Nat.le_of_ble_eq_true rfl) (fun κ h1 h2 h3 hret => ?_)
  subst h1; subst h2; subst h3
  refine x_lv [(0, .ref (ad 4)), (1, .int (zI a)), (2, .int (zI b))] rfl ?_
  refine x_aload_n dx_P_meetArguments_0 rfl rfl ?_
  refine x_aload_n dx_P_meetArguments_1 rfl rfl ?_
  refine x_get fa_P_9 dx_P_meetArguments_2 (by decide) rfl rfl ?_
  refine x_get fa_P_66 dx_P_meetArguments_5 (by decide) rfl rfl ?_
  refine x_iload_n dx_P_meetArguments_8 rfl rfl ?_
  refine x_iald dx_P_meetArguments_9 (by decide) rfl (by omega) (by omega) (by decide) ?_
  refine x_aload_n dx_P_meetArguments_10 rfl rfl ?_
  refine x_get fa_P_9 dx_P_meetArguments_11 (by decide) rfl rfl ?_
  refine x_get fa_P_66 dx_P_meetArguments_14 (by decide) rfl rfl ?_
  refine x_iload_n dx_P_meetArguments_17 rfl rfl ?_
  refine x_iald dx_P_meetArguments_18 (by decide) rfl (by omega) (by omega) (by decide) ?_
  refine x_aload_n dx_P_meetArguments_19 rfl rfl ?_
  refine x_get fa_P_21 dx_P_meetArguments_20 (by decide) rfl rfl ?_
  refine x_iload_n dx_P_meetArguments_23 rfl rfl ?_
  refine x_aald (t0 := 4) dx_P_meetArguments_24 (by decide) rfl rfl rfl (by omega) (by omega) (by decide) ?_
  refine x_iload_n dx_P_meetArguments_25 rfl rfl ?_
  refine x_lald dx_P_meetArguments_26 (by omega) kT_tim (by omega) (by omega) (by decide) ?_
  refine x_cvv3 (c_P_meet hM fa fb) cf_P_30 ⟨rfl, rfl, by decide, by decide⟩ ⟨Nat.zero_le _, Nat.zero_le _⟩ (wl_get (by decide)) rfl rfl (Nat.le_of_ble_eq_true rfl) dx_P_meetArguments_27 (fun u hp => ?_)
  subst hp
  have hM2 := mee_mo (t := σ.2.2 (42 + a.toNat) b) hM fa fb
  have f14 : (mee σ (σ.2.1 13 a) (σ.2.1 13 b) (σ.2.2 (42 + a.toNat) b)).2.1 14 = σ.2.1 14 := by rw [(mee_frp σ (σ.2.1 13 a) (σ.2.1 13 b) (σ.2.2 (42 + a.toNat) b)).2.1]
  refine x_aload_n dx_P_meetArguments_30 rfl rfl ?_
  refine x_aload_n dx_P_meetArguments_31 rfl rfl ?_
  refine x_get fa_P_9 dx_P_meetArguments_32 (by decide) rfl rfl ?_
  refine x_get fa_P_69 dx_P_meetArguments_35 (by decide) rfl rfl ?_
  refine x_iload_n dx_P_meetArguments_38 rfl rfl ?_
  refine x_iald dx_P_meetArguments_39 (by decide) rfl (by omega) (by omega) (by decide) ?_
  refine x_aload_n dx_P_meetArguments_40 rfl rfl ?_
  refine x_get fa_P_9 dx_P_meetArguments_41 (by decide) rfl rfl ?_
  refine x_get fa_P_69 dx_P_meetArguments_44 (by decide) rfl rfl ?_
  refine x_iload_n dx_P_meetArguments_47 rfl rfl ?_
  refine x_iald dx_P_meetArguments_48 (by decide) rfl (by omega) (by omega) (by decide) ?_
  refine x_aload_n dx_P_meetArguments_49 rfl rfl ?_
  refine x_get fa_P_21 dx_P_meetArguments_50 (by decide) rfl rfl ?_
  refine x_iload_n dx_P_meetArguments_53 rfl rfl ?_
  refine x_aald (t0 := 4) dx_P_meetArguments_54 (by decide) rfl rfl rfl (by omega) (by omega) (by decide) ?_
  refine x_iload_n dx_P_meetArguments_55 rfl rfl ?_
  refine x_lald dx_P_meetArguments_56 (by omega) kT_tim (by omega) (by omega) (by decide) ?_
  refine x_cvv3 (c_P_meet hM2 (by rw [f14]; exact ga) (by rw [f14]; exact gb)) cf_P_30 ⟨rfl, rfl, by decide, by decide⟩ ⟨Nat.zero_le _, Nat.zero_le _⟩ (wl_get (by decide)) rfl rfl (Nat.le_of_ble_eq_true rfl) dx_P_meetArguments_57 (fun u hp => ?_)
  subst hp
  exact hret _ _ _ rfl dx_P_meetArguments_60
set_option maxRecDepth 100000 in
set_option maxHeartbeats 4000000 in
theorem c_P_fitsAllBeside {l : Launch} {D : va_G} {ca : Nat → ClassId} {ad : Nat → Nat} {σ : S0} {σ0 : S0} {s t a : Int} (hT : VT σ0) (har : AR σ0) (h40 : σ0.1 3 ≤ 40) (hs : In (σ0.1 3) s) (ht : In (σ0.1 3) t) (hC : CB σ0 s t a σ) (ha : In (σ0.1 3) a) : CI l mn_P_fitsAllBeside kw_P_fitsAllBeside (rmk 4) D ca [.ref (ad 4), .int (zI a)] (wg 82 LT ca ad σ) (fun z u => (1 = z ∧ CB σ0 s t (a - 1) u) ∨ (0 = z ∧ FRp σ0 u ∧ Ok u ∧ ¬ MatchOK σ0 s t)) (wg 82 LT ca ad) := by
  refine ci_in rc_P cd_P_fitsAllBeside 3 .boolean rfl rfl (by decide) (Nat.le_of_ble_eq_true rfl) (fun κ h1 h2 h3 hret => ?_)
  subst h1; subst h2; subst h3
  refine x_lv [(0, .ref (ad 4)), (1, .int (zI a))] rfl ?_
  have ia : In 40 a := ⟨ha.1, by omega⟩
  have is : In 40 s := ⟨hs.1, by omega⟩
  have it : In 40 t := ⟨ht.1, by omega⟩
  have f2 : σ.2.1 = σ0.2.1 := hC.1.2.1
  have fa : ∀ v, In (σ0.1 3) v → (σ0.2.1 13 v = -1 ∨ In 40 (σ0.2.1 13 v)) ∧ (σ0.2.1 14 v = -1 ∨ In 40 (σ0.2.1 14 v)) := fun v hv => by
    have q := hT.2 v hv
    exact ⟨q.1.imp id (fun z => ⟨z.1, by omega⟩), q.2.1.imp id (fun z => ⟨z.1, by omega⟩)⟩
  refine x_aload_n dx_P_fitsAllBeside_0 rfl rfl ?_
  refine x_get fa_P_9 dx_P_fitsAllBeside_1 (by decide) rfl rfl ?_
  refine x_get fa_P_38 dx_P_fitsAllBeside_4 (by decide) rfl rfl ?_
  refine x_iload_n dx_P_fitsAllBeside_7 rfl rfl ?_
  refine x_iald dx_P_fitsAllBeside_8 (by decide) rfl (by omega) (by omega) (by decide) ?_
  refine x_iconst dx_P_fitsAllBeside_9 ?_
  refine x_icmp_ne (tgt := 32) dx_P_fitsAllBeside_10 (by decide) (hC.2.1.2.1 _ _) ⟨by decide, by decide⟩ (fun h10 => ?_) (fun h10 => ?_)
  ·
    rw [f2] at h10
    refine x_iconst dx_P_fitsAllBeside_32 ?_
    refine x_istore_n dx_P_fitsAllBeside_33 rfl (by decide) ?_
    refine x_lv [(0, .ref (ad 4)), (1, .int (zI a)), (2, .int (zI 0))] rfl ?_
    refine x_loop (fun q : Int × S0 => X κ (rmk 4) rc_P cd_P_fitsAllBeside 3 (wg 82 LT κ.2.2.1.2.2 ad q.2) 0 0 34 [(0, .ref (ad 4)), (1, .int (zI a)), (2, .int (zI q.1))] []) (fun q => 0 ≤ q.1 ∧ q.1 ≤ σ0.1 3 ∧ CBi σ0 s t a q.1 q.2) (fun q => (σ0.1 3 - q.1).toNat) (fun q hi34 ih34 => ?_) (0, σ) ⟨Int.le_refl _, hT.1, hC, fun y h0 h1 => by omega⟩
    obtain ⟨b, τ⟩ := q
    dsimp only at hi34 ⊢
    obtain ⟨b0, b1, hJ⟩ := hi34
    have fr := hJ.1.1
    have jO := hJ.1.2.1
    have jM := hJ.1.2.2.1
    have e1 : τ.1 = σ0.1 := fr.1
    have e2 : τ.2.1 = σ0.2.1 := fr.2.1
    refine x_iload_n dx_P_fitsAllBeside_34 rfl rfl ?_
    refine x_aload_n dx_P_fitsAllBeside_35 rfl rfl ?_
    refine x_get fa_P_9 dx_P_fitsAllBeside_36 (by decide) rfl rfl ?_
    refine x_get fa_P_50 dx_P_fitsAllBeside_39 (by decide) rfl rfl ?_
    refine x_icmp_ge (tgt := 89) dx_P_fitsAllBeside_42 (by decide) ⟨by omega, by omega⟩ (jO.1 _) (fun h42 => ?_) (fun h42 => ?_)
    ·
      rw [e1] at h42
      refine x_iconst dx_P_fitsAllBeside_89 ?_
      have e : b = σ0.1 3 := Int.le_antisymm b1 h42
      subst e
      exact hret _ _ _ _ (Or.inl ⟨rfl, cb_done hJ h10⟩) rfl dx_P_fitsAllBeside_90
    ·
      rw [e1] at h42
      have hb : In (σ0.1 3) b := ⟨b0, h42⟩
      have ib : In 40 b := ⟨b0, by omega⟩
      refine x_aload_n dx_P_fitsAllBeside_45 rfl rfl ?_
      refine x_iload_n dx_P_fitsAllBeside_46 rfl rfl ?_
      refine x_iload_n dx_P_fitsAllBeside_47 rfl rfl ?_
      refine x_cvi2 (c_P_isMet jM ia ib) cf_P_54 ⟨rfl, rfl, by decide, by decide⟩ ⟨Nat.zero_le _, Nat.zero_le _⟩ (wl_get (by decide)) rfl rfl (Nat.le_of_ble_eq_true rfl) dx_P_fitsAllBeside_48 (fun z u hp => ?_)
      obtain ⟨rfl, rfl⟩ := hp
      refine x_ifb_eq (tgt := 83) dx_P_fitsAllBeside_51 (by decide) (fun h51 => ?_) (fun h51 => ?_)
      ·
        refine x_iinc dx_P_fitsAllBeside_83 rfl (by decide) ?_
        refine x_goto (tgt := 34) dx_P_fitsAllBeside_86 (by decide) ?_
        first
          | (refine x_lv [(0, .ref (ad 4)), (1, .int (zI a)), (2, .int (zI (b + 1)))] rfl ?_; exact ih34 ((b + 1), _) ⟨by dsimp only; omega, by dsimp only; omega, cbi_skip hJ h51⟩ (by dsimp only; omega))
          | (refine x_lv [(0, .ref (ad 4)), (1, .int (zI a)), (2, .int (zI (b + 1)))] rfl ?_; exact ih34 ((b + 1), _) ⟨by dsimp only; omega, by dsimp only; omega, cbi_arg hT har h40 is it hJ hb ia h51 h10 h72⟩ (by dsimp only; omega))
      ·
        refine x_aload_n dx_P_fitsAllBeside_54 rfl rfl ?_
        refine x_get fa_P_9 dx_P_fitsAllBeside_55 (by decide) rfl rfl ?_
        refine x_get fa_P_38 dx_P_fitsAllBeside_58 (by decide) rfl rfl ?_
        refine x_iload_n dx_P_fitsAllBeside_61 rfl rfl ?_
        refine x_iald dx_P_fitsAllBeside_62 (by decide) rfl (by omega) (by omega) (by decide) ?_
        refine x_aload_n dx_P_fitsAllBeside_63 rfl rfl ?_
        refine x_get fa_P_9 dx_P_fitsAllBeside_64 (by decide) rfl rfl ?_
        refine x_get fa_P_38 dx_P_fitsAllBeside_67 (by decide) rfl rfl ?_
        refine x_iload_n dx_P_fitsAllBeside_70 rfl rfl ?_
        refine x_iald dx_P_fitsAllBeside_71 (by decide) rfl (by omega) (by omega) (by decide) ?_
        refine x_icmp_eq (tgt := 77) dx_P_fitsAllBeside_72 (by decide) (jO.2.1 _ _) (jO.2.1 _ _) (fun h72 => ?_) (fun h72 => ?_)
        ·
          rw [e2] at h72
          refine x_aload_n dx_P_fitsAllBeside_77 rfl rfl ?_
          refine x_iload_n dx_P_fitsAllBeside_78 rfl rfl ?_
          refine x_iload_n dx_P_fitsAllBeside_79 rfl rfl ?_
          refine x_cvv2 (c_P_meetArguments jM ia ib (by rw [e2]; exact (fa a ha).1) (by rw [e2]; exact (fa b hb).1) (by rw [e2]; exact (fa a ha).2) (by rw [e2]; exact (fa b hb).2)) cf_P_58 ⟨rfl, rfl, by decide, by decide⟩ ⟨Nat.zero_le _, Nat.zero_le _⟩ (wl_get (by decide)) rfl rfl (Nat.le_of_ble_eq_true rfl) dx_P_fitsAllBeside_80 (fun u hp => ?_)
          subst hp
          refine x_iinc dx_P_fitsAllBeside_83 rfl (by decide) ?_
          refine x_goto (tgt := 34) dx_P_fitsAllBeside_86 (by decide) ?_
          first
            | (refine x_lv [(0, .ref (ad 4)), (1, .int (zI a)), (2, .int (zI (b + 1)))] rfl ?_; exact ih34 ((b + 1), _) ⟨by dsimp only; omega, by dsimp only; omega, cbi_skip hJ h51⟩ (by dsimp only; omega))
            | (refine x_lv [(0, .ref (ad 4)), (1, .int (zI a)), (2, .int (zI (b + 1)))] rfl ?_; exact ih34 ((b + 1), _) ⟨by dsimp only; omega, by dsimp only; omega, cbi_arg hT har h40 is it hJ hb ia h51 h10 h72⟩ (by dsimp only; omega))
        ·
          rw [e2] at h72
          refine x_iconst dx_P_fitsAllBeside_75 ?_
          exact hret _ _ _ _ (Or.inr ⟨rfl, fr, jO, cb_fail2 hJ.1 ia ib h51 h10 h72⟩) rfl dx_P_fitsAllBeside_76
  ·
    rw [f2] at h10
    refine x_aload_n dx_P_fitsAllBeside_13 rfl rfl ?_
    refine x_get fa_P_15 dx_P_fitsAllBeside_14 (by decide) rfl rfl ?_
    refine x_iload_n dx_P_fitsAllBeside_17 rfl rfl ?_
    refine x_lald dx_P_fitsAllBeside_18 (by decide) rfl (by omega) (by omega) (by decide) ?_
    refine x_csi1 (c_jL_bitCount (hC.2.2.1 a ia).1 (hC.2.2.1 a ia).2) cf_P_44 ⟨rfl, rfl, by decide, by decide⟩ ⟨Nat.zero_le _, Nat.zero_le _⟩ (Nat.le_of_ble_eq_true rfl) dx_P_fitsAllBeside_19 (fun z u hp => ?_)
    obtain ⟨rfl, hu⟩ := hp
    subst hu
    refine x_iconst dx_P_fitsAllBeside_22 ?_
    refine x_icmp_gt (tgt := 30) dx_P_fitsAllBeside_23 (by decide) ⟨by have := pop_nn (σ.2.2 19 a); omega, by have := pop_nn (σ.2.2 19 a); omega⟩ ⟨by decide, by decide⟩ (fun h23 => ?_) (fun h23 => ?_)
    ·
      refine x_iconst dx_P_fitsAllBeside_30 ?_
      first
        | exact hret _ _ _ _ (Or.inl ⟨rfl, cb_var hC h10 h23⟩) rfl dx_P_fitsAllBeside_31
        | exact hret _ _ _ _ (Or.inr ⟨rfl, hC.1, hC.2.1, cb_fail1 hC ia h10 h23⟩) rfl dx_P_fitsAllBeside_31
    ·
      refine x_iconst dx_P_fitsAllBeside_26 ?_
      refine x_goto (tgt := 31) dx_P_fitsAllBeside_27 (by decide) ?_
      first
        | exact hret _ _ _ _ (Or.inl ⟨rfl, cb_var hC h10 h23⟩) rfl dx_P_fitsAllBeside_31
        | exact hret _ _ _ _ (Or.inr ⟨rfl, hC.1, hC.2.1, cb_fail1 hC ia h10 h23⟩) rfl dx_P_fitsAllBeside_31
set_option maxRecDepth 100000 in
set_option maxHeartbeats 4000000 in
theorem c_P_canBecome {l : Launch} {D : va_G} {ca : Nat → ClassId} {ad : Nat → Nat} {σ : S0} {s t : Int} (hs0 : Ok σ) (hT : VT σ) (har : AR σ) (h40 : σ.1 3 ≤ 40) (hs : In (σ.1 3) s) (ht : In (σ.1 3) t) : CI l mn_P_canBecome kw_P_canBecome (rmk 5) D ca [.ref (ad 4), .int (zI s), .int (zI t)] (wg 82 LT ca ad σ) (fun z u => FRp σ u ∧ Ok u ∧ ((1 = z ∧ MatchOK σ s t) ∨ (0 = z ∧ ¬ MatchOK σ s t))) (wg 82 LT ca ad) := by
  refine ci_in rc_P cd_P_canBecome 4 .boolean rfl rfl (by decide) (Nat.le_of_ble_eq_true rfl) (fun κ h1 h2 h3 hret => ?_)
  subst h1; subst h2; subst h3
  refine x_lv [(0, .ref (ad 4)), (1, .int (zI s)), (2, .int (zI t))] rfl ?_
  have is : In 40 s := ⟨hs.1, by omega⟩
  have it : In 40 t := ⟨ht.1, by omega⟩
  have mo0 : MO (stM σ 19 (fun _ => 0)) := fun x _ => by
    rw [stM_at]
    exact ⟨Int.le_refl _, p2_pos 40⟩
  refine x_aload_n dx_P_canBecome_0 rfl rfl ?_
  refine x_get fa_P_15 dx_P_canBecome_1 (by decide) rfl rfl ?_
  refine x_lconst (z := 0) dx_P_canBecome_4 (by decide) ?_
  refine x_csv2 (c_jY_fill_1 (j := 19) (by decide) rfl (by decide)) cf_P_24 ⟨rfl, rfl, by decide, by decide⟩ ⟨Nat.zero_le _, Nat.zero_le _⟩ (Nat.le_of_ble_eq_true rfl) dx_P_canBecome_5 (fun u hp => ?_)
  subst hp
  refine x_aload_n dx_P_canBecome_8 rfl rfl ?_
  refine x_iload_n dx_P_canBecome_9 rfl rfl ?_
  refine x_iload_n dx_P_canBecome_10 rfl rfl ?_
  refine x_lconst (z := 1) dx_P_canBecome_11 (by decide) ?_
  refine x_cvv3 (c_P_meet (σ := stM σ 19 (fun _ => 0)) mo0 (Or.inr is) (Or.inr it)) cf_P_30 ⟨rfl, rfl, by decide, by decide⟩ ⟨Nat.zero_le _, Nat.zero_le _⟩ (wl_get (by decide)) rfl rfl (Nat.le_of_ble_eq_true rfl) dx_P_canBecome_12 (fun u hp => ?_)
  subst hp
  refine x_iload_n dx_P_canBecome_15 rfl rfl ?_
  refine x_istore_n dx_P_canBecome_16 rfl (by decide) ?_
  refine x_lv [(0, .ref (ad 4)), (3, .int (zI s))] rfl ?_
  refine x_loop (fun q : Int × S0 => X κ (rmk 5) rc_P cd_P_canBecome 4 (wg 82 LT κ.2.2.1.2.2 ad q.2) 0 0 17 [(0, .ref (ad 4)), (3, .int (zI q.1))] []) (fun q => -1 ≤ q.1 ∧ q.1 ≤ s ∧ CB σ s t q.1 q.2) (fun q => (q.1 + 1).toNat) (fun q hi17 ih17 => ?_) (s, (mee (stM σ 19 (fun _ => 0)) s t 1)) ⟨by dsimp only; omega, Int.le_refl _, cb_0 hs0 h40 hs ht⟩
  obtain ⟨a, τ⟩ := q
  dsimp only at hi17 ⊢
  obtain ⟨a0, a1, hJ⟩ := hi17
  refine x_iload_n dx_P_canBecome_17 rfl rfl ?_
  refine x_if_lt (tgt := 37) dx_P_canBecome_18 (by decide) ⟨by omega, by omega⟩ (fun h18 => ?_) (fun h18 => ?_)
  ·
    refine x_iconst dx_P_canBecome_37 ?_
    have e : a = -1 := by omega
    subst e
    exact hret _ _ _ _ ⟨hJ.1, hJ.2.1, Or.inl ⟨rfl, cb_end hT har h40 hs ht hJ⟩⟩ rfl dx_P_canBecome_38
  ·
    refine x_aload_n dx_P_canBecome_21 rfl rfl ?_
    refine x_iload_n dx_P_canBecome_22 rfl rfl ?_
    refine x_cvi1 (c_P_fitsAllBeside hT har h40 hs ht hJ ⟨h18, by omega⟩) cf_P_34 ⟨rfl, rfl, by decide, by decide⟩ ⟨Nat.zero_le _, Nat.zero_le _⟩ (wl_get (by decide)) rfl rfl (Nat.le_of_ble_eq_true rfl) dx_P_canBecome_23 (fun z u hp => ?_)
    rcases hp with ⟨rfl, hu⟩ | ⟨rfl, hu1, hu2, hu3⟩
    ·
      refine x_if_ne (tgt := 31) dx_P_canBecome_26 (by decide) ⟨by decide, by decide⟩ (fun _ => ?_) (fun h => absurd h (by decide))
      refine x_iinc dx_P_canBecome_31 rfl (by decide) ?_
      refine x_goto (tgt := 17) dx_P_canBecome_34 (by decide) ?_
      refine x_lv [(0, .ref (ad 4)), (3, .int (zI (a + -1)))] rfl ?_
      exact ih17 ((a + -1), _) ⟨by dsimp only; omega, by dsimp only; omega, hu⟩ (by dsimp only; omega)
    ·
      refine x_if_ne (tgt := 31) dx_P_canBecome_26 (by decide) ⟨by decide, by decide⟩ (fun h => absurd rfl h) (fun _ => ?_)
      refine x_iconst dx_P_canBecome_29 ?_
      exact hret _ _ _ _ ⟨hu1, hu2, Or.inr ⟨rfl, hu3⟩⟩ rfl dx_P_canBecome_30
set_option maxRecDepth 100000 in
set_option maxHeartbeats 4000000 in
theorem c_T_matches {l : Launch} {D : va_G} {ca : Nat → ClassId} {ad : Nat → Nat} {σ : S0} {s t : Int} {e1 e2 : Int → Int} (hI : INV σ e1 e2) (hs : Rg s) (ht : Rg t) : CXI l mn_T_matches kw_T_matches (rmx 7 2 12) 2 12 D ca [.ref (ad 0), .int (zI s), .int (zI t)] (wg 82 LT ca ad σ) (fun z u => In (σ.1 0) s ∧ In (σ.1 0) t ∧ FRp σ u ∧ Ok u ∧ ((1 = z ∧ MatchOK σ (σ.2.1 11 s) (σ.2.1 11 t)) ∨ (0 = z ∧ ¬ MatchOK σ (σ.2.1 11 s) (σ.2.1 11 t)))) (fun E u => E = rc_jA ∧ ¬ (In (σ.1 0) s ∧ In (σ.1 0) t) ∧ σ = u) (wg 82 LT ca ad) := by
  refine cxi_in rc_T cd_T_matches 3 .boolean rfl rfl (by decide) (Nat.le_of_ble_eq_true rfl) ⟨by decide, by decide, by decide, by decide⟩ (fun κ h1 h2 h3 Z hret hthr hout => ?_)
  subst h1; subst h2; subst h3
  refine x_lv [(0, .ref (ad 0)), (1, .int (zI s)), (2, .int (zI t))] rfl ?_
  have hn := hI.1.2.1.2.1
  refine x_aload_n dx_T_matches_0 rfl rfl ?_
  refine x_iload_n dx_T_matches_1 rfl rfl ?_
  refine x_tv1 (c_T_needNode hI.1.1 hs) cf_T_107 Z ⟨rfl, rfl, by decide, by decide⟩ ⟨by decide, by decide⟩ (wl_get (by decide)) rfl rfl (Nat.le_of_ble_eq_true rfl) dx_T_matches_2 (fun E9 u hp => hout _ _ _ _ _ _ (⟨hp.1, fun q => hp.2.1 q.1, hp.2.2⟩) (by decide) (by decide)) (fun u hp => ?_)
  obtain ⟨gs, rfl⟩ := hp
  refine x_aload_n dx_T_matches_5 rfl rfl ?_
  refine x_iload_n dx_T_matches_6 rfl rfl ?_
  refine x_tv1 (c_T_needNode hI.1.1 ht) cf_T_107 Z ⟨rfl, rfl, by decide, by decide⟩ ⟨by decide, by decide⟩ (wl_get (by decide)) rfl rfl (Nat.le_of_ble_eq_true rfl) dx_T_matches_7 (fun E9 u hp => hout _ _ _ _ _ _ (⟨hp.1, fun q => hp.2.1 q.2, hp.2.2⟩) (by decide) (by decide)) (fun u hp => ?_)
  obtain ⟨gt, rfl⟩ := hp
  have gv := (hI.2.2.2.2.1 s gs).1
  have gw := (hI.2.2.2.2.1 t gt).1
  have g40 := hI.2.2.2.1
  have gar := ar_of hI.1.2.1 (inv_row hI.1) hI.2
  refine x_aload_n dx_T_matches_10 rfl rfl ?_
  refine x_get fa_T_37 dx_T_matches_11 (by decide) rfl rfl ?_
  refine x_aload_n dx_T_matches_14 rfl rfl ?_
  refine x_get fa_T_28 dx_T_matches_15 (by decide) rfl rfl ?_
  refine x_get fa_T_110 dx_T_matches_18 (by decide) rfl rfl ?_
  refine x_iload_n dx_T_matches_21 rfl rfl ?_
  refine x_iald dx_T_matches_22 (by decide) rfl (by omega) (by omega) (by decide) ?_
  refine x_aload_n dx_T_matches_23 rfl rfl ?_
  refine x_get fa_T_28 dx_T_matches_24 (by decide) rfl rfl ?_
  refine x_get fa_T_110 dx_T_matches_27 (by decide) rfl rfl ?_
  refine x_iload_n dx_T_matches_30 rfl rfl ?_
  refine x_iald dx_T_matches_31 (by decide) rfl (by omega) (by omega) (by decide) ?_
  refine x_cvi2 (c_P_canBecome hI.1.1 hI.2.1 gar g40 gv gw) cf_T_142 ⟨rfl, rfl, by decide, by decide⟩ ⟨by decide, by decide⟩ (wl_get (by decide)) rfl rfl (Nat.le_of_ble_eq_true rfl) dx_T_matches_32 (fun z u hp => ?_)
  obtain ⟨q1, q2, q3⟩ := hp
  rcases q3 with ⟨rfl, q3⟩ | ⟨rfl, q3⟩
  · exact hret _ _ _ _ _ _ (by decide) (by decide) ⟨gs, gt, q1, q2, Or.inl ⟨rfl, q3⟩⟩ rfl dx_T_matches_35
  · exact hret _ _ _ _ _ _ (by decide) (by decide) ⟨gs, gt, q1, q2, Or.inr ⟨rfl, q3⟩⟩ rfl dx_T_matches_35
