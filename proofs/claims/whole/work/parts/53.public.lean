set_option maxRecDepth 100000 in
set_option maxHeartbeats 4000000 in
theorem c_T_term {l : Launch} {D : va_G} {ca : Nat → ClassId} {ad : Nat → Nat} {σ : S0} {f a b : Int} {e1 e2 : Int → Int} (hI : INV σ e1 e2) (hf : Rg f) (ha : Rg a) (hb : Rg b) : CXI l mn_T_term kw_T_term (rmx 9 4 24) 4 24 D ca [.ref (ad 0), .int (zI f), .int (zI a), .int (zI b)] (wg 82 LT ca ad σ) (fun z u => TermOk (σ.1 0) f a b ∧ σ.1 0 < 40 ∧ σ.1 0 = z ∧ FRv (mkn σ (tk f a b) a b) u ∧ INV u e1 e2) (fun E u => (E = rc_jA ∧ ¬ TermOk (σ.1 0) f a b ∧ σ = u) ∨ (E = rc_jS ∧ TermOk (σ.1 0) f a b ∧ 40 ≤ σ.1 0 ∧ σ = u)) (wg 82 LT ca ad) := by
  refine cxi_in rc_T cd_T_term 5 .int rfl rfl (by decide) (Nat.le_of_ble_eq_true rfl) ⟨by decide, by decide, by decide, by decide⟩ (fun κ h1 h2 h3 Z hret hthr hout => ?_)
  subst h1; subst h2; subst h3
  refine x_lv [(0, .ref (ad 0)), (1, .int (zI f)), (2, .int (zI a)), (3, .int (zI b))] rfl ?_
  refine x_iload_n dx_T_term_0 rfl rfl ?_
  refine x_if_lt (tgt := 10) dx_T_term_1 (by decide) hf (fun h1 => ?_) (fun h1 => ?_)
  ·
    exact hthr rc_jA _ _ _ _ _ _ (Or.inl ⟨rfl, fun q => by have := q.1; omega, rfl⟩) tf_T_term_10 (by decide) (by decide) (Nat.le_of_ble_eq_true rfl)
  ·
    refine x_iload_n dx_T_term_4 rfl rfl ?_
    refine x_bipush dx_T_term_5 (by decide) ?_
    refine x_icmp_lt (tgt := 20) dx_T_term_7 (by decide) hf ⟨by decide, by decide⟩ (fun h7 => ?_) (fun h7 => ?_)
    ·
      refine x_iload_n dx_T_term_20 rfl rfl ?_
      refine x_iconst dx_T_term_21 ?_
      refine x_icmp_ne (tgt := 40) dx_T_term_22 (by decide) ha ⟨by decide, by decide⟩ (fun h22 => ?_) (fun h22 => ?_)
      ·
        refine x_aload_n dx_T_term_40 rfl rfl ?_
        refine x_iload_n dx_T_term_41 rfl rfl ?_
        refine x_tv1 (c_T_needNodeOrNone hI.1.1 ha) cf_T_61 Z ⟨rfl, rfl, by decide, by decide⟩ ⟨by decide, by decide⟩ (wl_get (by decide)) rfl rfl (Nat.le_of_ble_eq_true rfl) dx_T_term_42 (fun E9 u hp => hout _ _ _ _ _ _ (Or.inl ⟨hp.1, fun q => hp.2.1 q.2.2.1, hp.2.2⟩) (by decide) (by decide)) (fun u hp => ?_)
        obtain ⟨ga, rfl⟩ := hp
        refine x_aload_n dx_T_term_45 rfl rfl ?_
        refine x_iload_n dx_T_term_46 rfl rfl ?_
        refine x_tv1 (c_T_needNodeOrNone hI.1.1 hb) cf_T_61 Z ⟨rfl, rfl, by decide, by decide⟩ ⟨by decide, by decide⟩ (wl_get (by decide)) rfl rfl (Nat.le_of_ble_eq_true rfl) dx_T_term_47 (fun E9 u hp => hout _ _ _ _ _ _ (Or.inl ⟨hp.1, fun q => hp.2.1 q.2.2.2, hp.2.2⟩) (by decide) (by decide)) (fun u hp => ?_)
        obtain ⟨gb, rfl⟩ := hp
        have ok : TermOk (σ.1 0) f a b := ⟨by omega, by omega, ga, gb⟩
        refine x_aload_n dx_T_term_50 rfl rfl ?_
        refine x_tv0 (c_T_needRoomForNode hI.1.1) cf_T_45 Z ⟨rfl, rfl, by decide, by decide⟩ ⟨by decide, by decide⟩ (wl_get (by decide)) rfl rfl (Nat.le_of_ble_eq_true rfl) dx_T_term_51 (fun E9 u hp => hout _ _ _ _ _ _ (Or.inr ⟨hp.1, ok, hp.2.1, hp.2.2⟩) (by decide) (by decide)) (fun u hp => ?_)
        obtain ⟨h40, rfl⟩ := hp
        refine x_iload_n dx_T_term_54 rfl rfl ?_
        refine x_iconst dx_T_term_55 ?_
        refine x_icmp_ne (tgt := 63) dx_T_term_56 (by decide) ha ⟨by decide, by decide⟩ (fun h56 => ?_) (fun h56 => ?_)
        ·
          refine x_iconst dx_T_term_63 ?_
          refine x_iload_n dx_T_term_64 rfl rfl ?_
          refine x_iconst dx_T_term_65 ?_
          refine x_icmp_ne (tgt := 73) dx_T_term_66 (by decide) hb ⟨by decide, by decide⟩ (fun h66 => ?_) (fun h66 => ?_)
          ·
            refine x_iconst dx_T_term_73 ?_
            refine x_iadd dx_T_term_74 ?_
            refine x_istore dx_T_term_75 (by decide) ?_
            refine x_aload_n dx_T_term_77 rfl rfl ?_
            refine x_iconst dx_T_term_78 ?_
            refine x_iload_n dx_T_term_79 rfl rfl ?_
            refine x_imul dx_T_term_80 ?_
            refine x_iload dx_T_term_81 rfl ?_
            refine x_iadd dx_T_term_83 ?_
            refine x_iload_n dx_T_term_84 rfl rfl ?_
            refine x_iload_n dx_T_term_85 rfl rfl ?_
            refine x_cvi3 (c_T_makeNode hI h40 ⟨Or.inr ⟨by omega, by omega⟩, ga, gb, fun q => by omega, fun _ => ⟨by omega, by omega⟩⟩) cf_T_48 ⟨rfl, rfl, by decide, by decide⟩ ⟨by decide, by decide⟩ (wl_get (by decide)) rfl rfl (Nat.le_of_ble_eq_true rfl) dx_T_term_86 (fun z u hp => ?_)
            exact hret _ _ _ _ _ _ (by decide) (by decide) ⟨ok, h40, hp.1, tk_fr hp.2.1 (by unfold tk; first | rw [if_pos h56, if_pos h66] | rw [if_pos h56, if_neg h66] | rw [if_neg h56, if_pos h66] | rw [if_neg h56, if_neg h66]), hp.2.2⟩ rfl dx_T_term_89
          ·
            refine x_iconst dx_T_term_69 ?_
            refine x_goto (tgt := 74) dx_T_term_70 (by decide) ?_
            refine x_iadd dx_T_term_74 ?_
            refine x_istore dx_T_term_75 (by decide) ?_
            refine x_aload_n dx_T_term_77 rfl rfl ?_
            refine x_iconst dx_T_term_78 ?_
            refine x_iload_n dx_T_term_79 rfl rfl ?_
            refine x_imul dx_T_term_80 ?_
            refine x_iload dx_T_term_81 rfl ?_
            refine x_iadd dx_T_term_83 ?_
            refine x_iload_n dx_T_term_84 rfl rfl ?_
            refine x_iload_n dx_T_term_85 rfl rfl ?_
            refine x_cvi3 (c_T_makeNode hI h40 ⟨Or.inr ⟨by omega, by omega⟩, ga, gb, fun q => by omega, fun _ => ⟨by omega, by omega⟩⟩) cf_T_48 ⟨rfl, rfl, by decide, by decide⟩ ⟨by decide, by decide⟩ (wl_get (by decide)) rfl rfl (Nat.le_of_ble_eq_true rfl) dx_T_term_86 (fun z u hp => ?_)
            exact hret _ _ _ _ _ _ (by decide) (by decide) ⟨ok, h40, hp.1, tk_fr hp.2.1 (by unfold tk; first | rw [if_pos h56, if_pos h66] | rw [if_pos h56, if_neg h66] | rw [if_neg h56, if_pos h66] | rw [if_neg h56, if_neg h66]), hp.2.2⟩ rfl dx_T_term_89
        ·
          refine x_iconst dx_T_term_59 ?_
          refine x_goto (tgt := 64) dx_T_term_60 (by decide) ?_
          refine x_iload_n dx_T_term_64 rfl rfl ?_
          refine x_iconst dx_T_term_65 ?_
          refine x_icmp_ne (tgt := 73) dx_T_term_66 (by decide) hb ⟨by decide, by decide⟩ (fun h66 => ?_) (fun h66 => ?_)
          ·
            refine x_iconst dx_T_term_73 ?_
            refine x_iadd dx_T_term_74 ?_
            refine x_istore dx_T_term_75 (by decide) ?_
            refine x_aload_n dx_T_term_77 rfl rfl ?_
            refine x_iconst dx_T_term_78 ?_
            refine x_iload_n dx_T_term_79 rfl rfl ?_
            refine x_imul dx_T_term_80 ?_
            refine x_iload dx_T_term_81 rfl ?_
            refine x_iadd dx_T_term_83 ?_
            refine x_iload_n dx_T_term_84 rfl rfl ?_
            refine x_iload_n dx_T_term_85 rfl rfl ?_
            refine x_cvi3 (c_T_makeNode hI h40 ⟨Or.inr ⟨by omega, by omega⟩, ga, gb, fun q => by omega, fun _ => ⟨by omega, by omega⟩⟩) cf_T_48 ⟨rfl, rfl, by decide, by decide⟩ ⟨by decide, by decide⟩ (wl_get (by decide)) rfl rfl (Nat.le_of_ble_eq_true rfl) dx_T_term_86 (fun z u hp => ?_)
            exact hret _ _ _ _ _ _ (by decide) (by decide) ⟨ok, h40, hp.1, tk_fr hp.2.1 (by unfold tk; first | rw [if_pos h56, if_pos h66] | rw [if_pos h56, if_neg h66] | rw [if_neg h56, if_pos h66] | rw [if_neg h56, if_neg h66]), hp.2.2⟩ rfl dx_T_term_89
          ·
            refine x_iconst dx_T_term_69 ?_
            refine x_goto (tgt := 74) dx_T_term_70 (by decide) ?_
            refine x_iadd dx_T_term_74 ?_
            refine x_istore dx_T_term_75 (by decide) ?_
            refine x_aload_n dx_T_term_77 rfl rfl ?_
            refine x_iconst dx_T_term_78 ?_
            refine x_iload_n dx_T_term_79 rfl rfl ?_
            refine x_imul dx_T_term_80 ?_
            refine x_iload dx_T_term_81 rfl ?_
            refine x_iadd dx_T_term_83 ?_
            refine x_iload_n dx_T_term_84 rfl rfl ?_
            refine x_iload_n dx_T_term_85 rfl rfl ?_
            refine x_cvi3 (c_T_makeNode hI h40 ⟨Or.inr ⟨by omega, by omega⟩, ga, gb, fun q => by omega, fun _ => ⟨by omega, by omega⟩⟩) cf_T_48 ⟨rfl, rfl, by decide, by decide⟩ ⟨by decide, by decide⟩ (wl_get (by decide)) rfl rfl (Nat.le_of_ble_eq_true rfl) dx_T_term_86 (fun z u hp => ?_)
            exact hret _ _ _ _ _ _ (by decide) (by decide) ⟨ok, h40, hp.1, tk_fr hp.2.1 (by unfold tk; first | rw [if_pos h56, if_pos h66] | rw [if_pos h56, if_neg h66] | rw [if_neg h56, if_pos h66] | rw [if_neg h56, if_neg h66]), hp.2.2⟩ rfl dx_T_term_89
      ·
        refine x_iload_n dx_T_term_25 rfl rfl ?_
        refine x_iconst dx_T_term_26 ?_
        refine x_icmp_eq (tgt := 40) dx_T_term_27 (by decide) hb ⟨by decide, by decide⟩ (fun h27 => ?_) (fun h27 => ?_)
        ·
          refine x_aload_n dx_T_term_40 rfl rfl ?_
          refine x_iload_n dx_T_term_41 rfl rfl ?_
          refine x_tv1 (c_T_needNodeOrNone hI.1.1 ha) cf_T_61 Z ⟨rfl, rfl, by decide, by decide⟩ ⟨by decide, by decide⟩ (wl_get (by decide)) rfl rfl (Nat.le_of_ble_eq_true rfl) dx_T_term_42 (fun E9 u hp => hout _ _ _ _ _ _ (Or.inl ⟨hp.1, fun q => hp.2.1 q.2.2.1, hp.2.2⟩) (by decide) (by decide)) (fun u hp => ?_)
          obtain ⟨ga, rfl⟩ := hp
          refine x_aload_n dx_T_term_45 rfl rfl ?_
          refine x_iload_n dx_T_term_46 rfl rfl ?_
          refine x_tv1 (c_T_needNodeOrNone hI.1.1 hb) cf_T_61 Z ⟨rfl, rfl, by decide, by decide⟩ ⟨by decide, by decide⟩ (wl_get (by decide)) rfl rfl (Nat.le_of_ble_eq_true rfl) dx_T_term_47 (fun E9 u hp => hout _ _ _ _ _ _ (Or.inl ⟨hp.1, fun q => hp.2.1 q.2.2.2, hp.2.2⟩) (by decide) (by decide)) (fun u hp => ?_)
          obtain ⟨gb, rfl⟩ := hp
          have ok : TermOk (σ.1 0) f a b := ⟨by omega, by omega, ga, gb⟩
          refine x_aload_n dx_T_term_50 rfl rfl ?_
          refine x_tv0 (c_T_needRoomForNode hI.1.1) cf_T_45 Z ⟨rfl, rfl, by decide, by decide⟩ ⟨by decide, by decide⟩ (wl_get (by decide)) rfl rfl (Nat.le_of_ble_eq_true rfl) dx_T_term_51 (fun E9 u hp => hout _ _ _ _ _ _ (Or.inr ⟨hp.1, ok, hp.2.1, hp.2.2⟩) (by decide) (by decide)) (fun u hp => ?_)
          obtain ⟨h40, rfl⟩ := hp
          refine x_iload_n dx_T_term_54 rfl rfl ?_
          refine x_iconst dx_T_term_55 ?_
          refine x_icmp_ne (tgt := 63) dx_T_term_56 (by decide) ha ⟨by decide, by decide⟩ (fun h56 => ?_) (fun h56 => ?_)
          ·
            refine x_iconst dx_T_term_63 ?_
            refine x_iload_n dx_T_term_64 rfl rfl ?_
            refine x_iconst dx_T_term_65 ?_
            refine x_icmp_ne (tgt := 73) dx_T_term_66 (by decide) hb ⟨by decide, by decide⟩ (fun h66 => ?_) (fun h66 => ?_)
            ·
              refine x_iconst dx_T_term_73 ?_
              refine x_iadd dx_T_term_74 ?_
              refine x_istore dx_T_term_75 (by decide) ?_
              refine x_aload_n dx_T_term_77 rfl rfl ?_
              refine x_iconst dx_T_term_78 ?_
              refine x_iload_n dx_T_term_79 rfl rfl ?_
              refine x_imul dx_T_term_80 ?_
              refine x_iload dx_T_term_81 rfl ?_
              refine x_iadd dx_T_term_83 ?_
              refine x_iload_n dx_T_term_84 rfl rfl ?_
              refine x_iload_n dx_T_term_85 rfl rfl ?_
              refine x_cvi3 (c_T_makeNode hI h40 ⟨Or.inr ⟨by omega, by omega⟩, ga, gb, fun q => by omega, fun _ => ⟨by omega, by omega⟩⟩) cf_T_48 ⟨rfl, rfl, by decide, by decide⟩ ⟨by decide, by decide⟩ (wl_get (by decide)) rfl rfl (Nat.le_of_ble_eq_true rfl) dx_T_term_86 (fun z u hp => ?_)
              exact hret _ _ _ _ _ _ (by decide) (by decide) ⟨ok, h40, hp.1, tk_fr hp.2.1 (by unfold tk; first | rw [if_pos h56, if_pos h66] | rw [if_pos h56, if_neg h66] | rw [if_neg h56, if_pos h66] | rw [if_neg h56, if_neg h66]), hp.2.2⟩ rfl dx_T_term_89
            ·
              refine x_iconst dx_T_term_69 ?_
              refine x_goto (tgt := 74) dx_T_term_70 (by decide) ?_
              refine x_iadd dx_T_term_74 ?_
              refine x_istore dx_T_term_75 (by decide) ?_
              refine x_aload_n dx_T_term_77 rfl rfl ?_
              refine x_iconst dx_T_term_78 ?_
              refine x_iload_n dx_T_term_79 rfl rfl ?_
              refine x_imul dx_T_term_80 ?_
              refine x_iload dx_T_term_81 rfl ?_
              refine x_iadd dx_T_term_83 ?_
              refine x_iload_n dx_T_term_84 rfl rfl ?_
              refine x_iload_n dx_T_term_85 rfl rfl ?_
              refine x_cvi3 (c_T_makeNode hI h40 ⟨Or.inr ⟨by omega, by omega⟩, ga, gb, fun q => by omega, fun _ => ⟨by omega, by omega⟩⟩) cf_T_48 ⟨rfl, rfl, by decide, by decide⟩ ⟨by decide, by decide⟩ (wl_get (by decide)) rfl rfl (Nat.le_of_ble_eq_true rfl) dx_T_term_86 (fun z u hp => ?_)
              exact hret _ _ _ _ _ _ (by decide) (by decide) ⟨ok, h40, hp.1, tk_fr hp.2.1 (by unfold tk; first | rw [if_pos h56, if_pos h66] | rw [if_pos h56, if_neg h66] | rw [if_neg h56, if_pos h66] | rw [if_neg h56, if_neg h66]), hp.2.2⟩ rfl dx_T_term_89
          ·
            refine x_iconst dx_T_term_59 ?_
            refine x_goto (tgt := 64) dx_T_term_60 (by decide) ?_
            refine x_iload_n dx_T_term_64 rfl rfl ?_
            refine x_iconst dx_T_term_65 ?_
            refine x_icmp_ne (tgt := 73) dx_T_term_66 (by decide) hb ⟨by decide, by decide⟩ (fun h66 => ?_) (fun h66 => ?_)
            ·
              refine x_iconst dx_T_term_73 ?_
              refine x_iadd dx_T_term_74 ?_
              refine x_istore dx_T_term_75 (by decide) ?_
              refine x_aload_n dx_T_term_77 rfl rfl ?_
              refine x_iconst dx_T_term_78 ?_
              refine x_iload_n dx_T_term_79 rfl rfl ?_
              refine x_imul dx_T_term_80 ?_
              refine x_iload dx_T_term_81 rfl ?_
              refine x_iadd dx_T_term_83 ?_
              refine x_iload_n dx_T_term_84 rfl rfl ?_
              refine x_iload_n dx_T_term_85 rfl rfl ?_
              refine x_cvi3 (c_T_makeNode hI h40 ⟨Or.inr ⟨by omega, by omega⟩, ga, gb, fun q => by omega, fun _ => ⟨by omega, by omega⟩⟩) cf_T_48 ⟨rfl, rfl, by decide, by decide⟩ ⟨by decide, by decide⟩ (wl_get (by decide)) rfl rfl (Nat.le_of_ble_eq_true rfl) dx_T_term_86 (fun z u hp => ?_)
              exact hret _ _ _ _ _ _ (by decide) (by decide) ⟨ok, h40, hp.1, tk_fr hp.2.1 (by unfold tk; first | rw [if_pos h56, if_pos h66] | rw [if_pos h56, if_neg h66] | rw [if_neg h56, if_pos h66] | rw [if_neg h56, if_neg h66]), hp.2.2⟩ rfl dx_T_term_89
            ·
              refine x_iconst dx_T_term_69 ?_
              refine x_goto (tgt := 74) dx_T_term_70 (by decide) ?_
              refine x_iadd dx_T_term_74 ?_
              refine x_istore dx_T_term_75 (by decide) ?_
              refine x_aload_n dx_T_term_77 rfl rfl ?_
              refine x_iconst dx_T_term_78 ?_
              refine x_iload_n dx_T_term_79 rfl rfl ?_
              refine x_imul dx_T_term_80 ?_
              refine x_iload dx_T_term_81 rfl ?_
              refine x_iadd dx_T_term_83 ?_
              refine x_iload_n dx_T_term_84 rfl rfl ?_
              refine x_iload_n dx_T_term_85 rfl rfl ?_
              refine x_cvi3 (c_T_makeNode hI h40 ⟨Or.inr ⟨by omega, by omega⟩, ga, gb, fun q => by omega, fun _ => ⟨by omega, by omega⟩⟩) cf_T_48 ⟨rfl, rfl, by decide, by decide⟩ ⟨by decide, by decide⟩ (wl_get (by decide)) rfl rfl (Nat.le_of_ble_eq_true rfl) dx_T_term_86 (fun z u hp => ?_)
              exact hret _ _ _ _ _ _ (by decide) (by decide) ⟨ok, h40, hp.1, tk_fr hp.2.1 (by unfold tk; first | rw [if_pos h56, if_pos h66] | rw [if_pos h56, if_neg h66] | rw [if_neg h56, if_pos h66] | rw [if_neg h56, if_neg h66]), hp.2.2⟩ rfl dx_T_term_89
        ·
          exact hthr rc_jA _ _ _ _ _ _ (Or.inl ⟨rfl, fun q => q.2.1 ⟨h22, h27⟩, rfl⟩) tf_T_term_30 (by decide) (by decide) (Nat.le_of_ble_eq_true rfl)
    ·
      exact hthr rc_jA _ _ _ _ _ _ (Or.inl ⟨rfl, fun q => by have := q.1; omega, rfl⟩) tf_T_term_10 (by decide) (by decide) (Nat.le_of_ble_eq_true rfl)
set_option maxRecDepth 100000 in
set_option maxHeartbeats 4000000 in
theorem c_T_unify {l : Launch} {D : va_G} {ca : Nat → ClassId} {ad : Nat → Nat} {σ : S0} {s t : Int} {e1 e2 : Int → Int} (hI : INV σ e1 e2) (hs : Rg s) (ht : Rg t) (h1 : e1 (σ.1 2) = s) (h2 : e2 (σ.1 2) = t) : CXI l mn_T_unify kw_T_unify (rmx 8 2 12) 2 12 D ca [.ref (ad 0), .int (zI s), .int (zI t)] (wg 82 LT ca ad σ) (fun z u => In (σ.1 0) s ∧ In (σ.1 0) t ∧ σ.1 2 < 20 ∧ SN σ u ∧ u.1 2 = σ.1 2 + 1 ∧ u.1 5 = 0 ∧ INV u e1 e2 ∧ σ.1 4 - u.1 4 = z) (fun E u => (E = rc_jA ∧ ¬ (In (σ.1 0) s ∧ In (σ.1 0) t) ∧ stI σ 5 3 = u) ∨ (E = rc_jS ∧ In (σ.1 0) s ∧ In (σ.1 0) t ∧ 20 ≤ σ.1 2 ∧ stI σ 5 0 = u) ∨ (E = rc_jS ∧ In (σ.1 0) s ∧ In (σ.1 0) t ∧ σ.1 2 < 20 ∧ SN σ u ∧ u.1 2 = σ.1 2 ∧ INV u e1 e2 ∧ ((u.1 5 = 1 ∧ Clash (σ.1 0) (σ.2.1 5) (cl σ e1 e2 (σ.1 2 + 1))) ∨ (u.1 5 = 2 ∧ Loop (σ.1 0) (σ.2.1 5) (σ.2.1 6) (σ.2.1 7) (cl σ e1 e2 (σ.1 2 + 1)))))) (wg 82 LT ca ad) := by
  refine cxi_in rc_T cd_T_unify 4 .int rfl rfl (by decide) (Nat.le_of_ble_eq_true rfl) ⟨by decide, by decide, by decide, by decide⟩ (fun κ h1 h2 h3 Z hret hthr hout => ?_)
  subst h1; subst h2; subst h3
  refine x_lv [(0, .ref (ad 0)), (1, .int (zI s)), (2, .int (zI t))] rfl ?_
  refine x_aload_n dx_T_unify_0 rfl rfl ?_
  refine x_get fa_T_12 dx_T_unify_1 (by decide) rfl rfl ?_
  refine x_iload_n dx_T_unify_4 rfl rfl ?_
  refine x_cvi1 (c_N_has hI.1.1 hs) cf_T_65 ⟨rfl, rfl, by decide, by decide⟩ ⟨by decide, by decide⟩ (wl_get (by decide)) rfl rfl (Nat.le_of_ble_eq_true rfl) dx_T_unify_5 (fun z u hp => ?_)
  obtain ⟨rfl, rfl⟩ := hp
  refine x_ifb_eq (tgt := 22) dx_T_unify_8 (by decide) (fun h8 => ?_) (fun h8 => ?_)
  ·
    refine x_aload_n dx_T_unify_22 rfl rfl ?_
    refine x_iconst dx_T_unify_23 ?_
    refine x_put fp_T_41 io_fault dx_T_unify_24 (by decide) rfl rfl ?_
    exact hthr rc_jA _ _ _ _ _ _ (Or.inl ⟨rfl, (by first | exact fun q => h8 q.1 | exact fun q => h19 q.2), rfl⟩) tf_T_unify_27 (by decide) (by decide) (Nat.le_of_ble_eq_true rfl)
  ·
    refine x_aload_n dx_T_unify_11 rfl rfl ?_
    refine x_get fa_T_12 dx_T_unify_12 (by decide) rfl rfl ?_
    refine x_iload_n dx_T_unify_15 rfl rfl ?_
    refine x_cvi1 (c_N_has hI.1.1 ht) cf_T_65 ⟨rfl, rfl, by decide, by decide⟩ ⟨by decide, by decide⟩ (wl_get (by decide)) rfl rfl (Nat.le_of_ble_eq_true rfl) dx_T_unify_16 (fun z u hp => ?_)
    obtain ⟨rfl, rfl⟩ := hp
    refine x_ifb_ne (tgt := 37) dx_T_unify_19 (by decide) (fun h19 => ?_) (fun h19 => ?_)
    ·
      refine x_aload_n dx_T_unify_37 rfl rfl ?_
      refine x_iconst dx_T_unify_38 ?_
      refine x_put fp_T_41 io_fault dx_T_unify_39 (by decide) rfl rfl ?_
      refine x_aload_n dx_T_unify_42 rfl rfl ?_
      refine x_get fa_T_21 dx_T_unify_43 (by decide) rfl rfl ?_
      refine x_cvi0 (c_E_areFull (σ := stI σ 5 0) (inv_5 hI ⟨by decide, by decide⟩).1.1) cf_T_71 ⟨rfl, rfl, by decide, by decide⟩ ⟨by decide, by decide⟩ (wl_get (by decide)) rfl rfl (Nat.le_of_ble_eq_true rfl) dx_T_unify_46 (fun z u hp => ?_)
      obtain ⟨rfl, rfl⟩ := hp
      refine x_ifb_eq (tgt := 62) dx_T_unify_49 (by decide) (fun h49 => ?_) (fun h49 => ?_)
      ·
        have h49 : σ.1 2 < 20 := by have h9 : ¬ 20 ≤ σ.1 2 := h49; omega
        refine x_aload_n dx_T_unify_62 rfl rfl ?_
        refine x_get fa_T_28 dx_T_unify_63 (by decide) rfl rfl ?_
        refine x_get fa_T_80 dx_T_unify_66 (by decide) rfl rfl ?_
        refine x_istore_n dx_T_unify_69 rfl (by decide) ?_
        refine x_aload_n dx_T_unify_70 rfl rfl ?_
        refine x_aload_n dx_T_unify_71 rfl rfl ?_
        refine x_iload_n dx_T_unify_72 rfl rfl ?_
        refine x_iload_n dx_T_unify_73 rfl rfl ?_
        refine x_cvi2 (c_T_tryEquation (σ := stI σ 5 0) (inv_5 hI ⟨by decide, by decide⟩) h49 h8 h19 h1 h2) cf_T_83 ⟨rfl, rfl, by decide, by decide⟩ ⟨by decide, by decide⟩ (wl_get (by decide)) rfl rfl (Nat.le_of_ble_eq_true rfl) dx_T_unify_74 (fun z u hp => ?_)
        obtain ⟨q1, q0, ⟨rfl, q2, q3, q4⟩ | ⟨rfl, q2, q3, q4⟩ | ⟨rfl, q2, q3⟩⟩ := hp
        ·
          refine x_put fp_T_41 io_fault dx_T_unify_77 (by decide) rfl rfl ?_
          refine x_aload_n dx_T_unify_80 rfl rfl ?_
          refine x_get fa_T_41 dx_T_unify_81 (by decide) rfl rfl ?_
          refine x_if_eq (tgt := 97) dx_T_unify_84 (by decide) (show Rg (1) from ⟨by decide, by decide⟩) (fun h => absurd (show (1 : Int) = 0 from h) (by decide)) (fun _ => ?_)
          exact hthr rc_jS _ _ _ _ _ _ (Or.inr (Or.inr ⟨rfl, h8, h19, h49, q1, q2, inv_5 q3 ⟨by decide, by decide⟩, (by first | exact Or.inl ⟨rfl, q4⟩ | exact Or.inr ⟨rfl, q4⟩)⟩)) tf_T_unify_87 (by decide) (by decide) (Nat.le_of_ble_eq_true rfl)
        ·
          refine x_put fp_T_41 io_fault dx_T_unify_77 (by decide) rfl rfl ?_
          refine x_aload_n dx_T_unify_80 rfl rfl ?_
          refine x_get fa_T_41 dx_T_unify_81 (by decide) rfl rfl ?_
          refine x_if_eq (tgt := 97) dx_T_unify_84 (by decide) (show Rg (2) from ⟨by decide, by decide⟩) (fun h => absurd (show (2 : Int) = 0 from h) (by decide)) (fun _ => ?_)
          exact hthr rc_jS _ _ _ _ _ _ (Or.inr (Or.inr ⟨rfl, h8, h19, h49, q1, q2, inv_5 q3 ⟨by decide, by decide⟩, (by first | exact Or.inl ⟨rfl, q4⟩ | exact Or.inr ⟨rfl, q4⟩)⟩)) tf_T_unify_87 (by decide) (by decide) (Nat.le_of_ble_eq_true rfl)
        ·
          refine x_put fp_T_41 io_fault dx_T_unify_77 (by decide) rfl rfl ?_
          refine x_aload_n dx_T_unify_80 rfl rfl ?_
          refine x_get fa_T_41 dx_T_unify_81 (by decide) rfl rfl ?_
          refine x_if_eq (tgt := 97) dx_T_unify_84 (by decide) (show Rg (0) from ⟨by decide, by decide⟩) (fun _ => ?_) (fun h => absurd rfl h)
          refine x_iload_n dx_T_unify_97 rfl rfl ?_
          refine x_aload_n dx_T_unify_98 rfl rfl ?_
          refine x_get fa_T_28 dx_T_unify_99 (by decide) rfl rfl ?_
          refine x_get fa_T_80 dx_T_unify_102 (by decide) rfl rfl ?_
          refine x_isub dx_T_unify_105 ?_
          exact hret _ _ _ _ _ _ (by decide) (by decide) ⟨h8, h19, h49, q1, q2, rfl, inv_5 q3 ⟨by decide, by decide⟩, rfl⟩ rfl dx_T_unify_106
      ·
        exact hthr rc_jS _ _ _ _ _ _ (Or.inr (Or.inl ⟨rfl, h8, h19, h49, rfl⟩)) tf_T_unify_52 (by decide) (by decide) (Nat.le_of_ble_eq_true rfl)
    ·
      refine x_aload_n dx_T_unify_22 rfl rfl ?_
      refine x_iconst dx_T_unify_23 ?_
      refine x_put fp_T_41 io_fault dx_T_unify_24 (by decide) rfl rfl ?_
      exact hthr rc_jA _ _ _ _ _ _ (Or.inl ⟨rfl, (by first | exact fun q => h8 q.1 | exact fun q => h19 q.2), rfl⟩) tf_T_unify_27 (by decide) (by decide) (Nat.le_of_ble_eq_true rfl)
set_option maxRecDepth 100000 in
set_option maxHeartbeats 4000000 in
theorem c_T_why {l : Launch} {D : va_G} {ca : Nat → ClassId} {ad : Nat → Nat} {σ : S0}   : CI l mn_T_why kw_T_why (rmk 1) D ca [.ref (ad 0)] (wg 82 LT ca ad σ) (fun z u => σ.1 5 = z ∧ σ = u) (wg 82 LT ca ad) := by
  refine ci_in rc_T cd_T_why 1 .int rfl rfl (by decide) (Nat.le_of_ble_eq_true rfl) (fun κ h1 h2 h3 hret => ?_)
  subst h1; subst h2; subst h3
  refine x_lv [(0, .ref (ad 0))] rfl ?_
  refine x_aload_n dx_T_why_0 rfl rfl ?_
  refine x_get fa_T_41 dx_T_why_1 (by decide) rfl rfl ?_
  exact hret _ _ _ _ ⟨rfl, rfl⟩ rfl dx_T_why_4
set_option maxRecDepth 100000 in
set_option maxHeartbeats 4000000 in
theorem c_T_undo {l : Launch} {D : va_G} {ca : Nat → ClassId} {ad : Nat → Nat} {σ : S0} {n : Int} {e1 e2 : Int → Int} (hI : INV σ e1 e2) (hn : Rg n) : CXI l mn_T_undo kw_T_undo (rmx 8 2 12) 2 12 D ca [.ref (ad 0), .int (zI n)] (wg 82 LT ca ad σ) (fun z u => (0 ≤ n ∧ n ≤ σ.1 2) ∧ SN σ u ∧ u.1 2 = σ.1 2 - n ∧ u.1 5 = σ.1 5 ∧ INV u e1 e2 ∧ u.1 2 = z) (fun E u => E = rc_jA ∧ ¬ (0 ≤ n ∧ n ≤ σ.1 2) ∧ σ = u) (wg 82 LT ca ad) := by
  refine cxi_in rc_T cd_T_undo 2 .int rfl rfl (by decide) (Nat.le_of_ble_eq_true rfl) ⟨by decide, by decide, by decide, by decide⟩ (fun κ h1 h2 h3 Z hret hthr hout => ?_)
  subst h1; subst h2; subst h3
  refine x_lv [(0, .ref (ad 0)), (1, .int (zI n))] rfl ?_
  refine x_iload_n dx_T_undo_0 rfl rfl ?_
  refine x_if_lt (tgt := 15) dx_T_undo_1 (by decide) hn (fun h1 => ?_) (fun h1 => ?_)
  ·
    exact hthr rc_jA _ _ _ _ _ _ ⟨rfl, by omega, rfl⟩ tf_T_undo_15 (by decide) (by decide) (Nat.le_of_ble_eq_true rfl)
  ·
    refine x_iload_n dx_T_undo_4 rfl rfl ?_
    refine x_aload_n dx_T_undo_5 rfl rfl ?_
    refine x_get fa_T_21 dx_T_undo_6 (by decide) rfl rfl ?_
    refine x_get fa_T_89 dx_T_undo_9 (by decide) rfl rfl ?_
    refine x_icmp_le (tgt := 25) dx_T_undo_12 (by decide) hn (hI.1.1.1 _) (fun h12 => ?_) (fun h12 => ?_)
    ·
      have h9 : 0 ≤ σ.1 2 - n := by omega
      have h20 := hI.1.2.2.2.1
      have hi0 := inv0_less hI.1 h9 (show σ.1 2 - n ≤ σ.1 2 by omega)
      refine x_aload_n dx_T_undo_25 rfl rfl ?_
      refine x_get fa_T_21 dx_T_undo_26 (by decide) rfl rfl ?_
      refine x_dup dx_T_undo_29 rfl ?_
      refine x_get fa_T_89 dx_T_undo_30 (by decide) rfl rfl ?_
      refine x_iload_n dx_T_undo_33 rfl rfl ?_
      refine x_isub dx_T_undo_34 ?_
      refine x_put fp_T_89 io_kept dx_T_undo_35 (by decide) rfl rfl ?_
      refine x_aload_n dx_T_undo_38 rfl rfl ?_
      refine x_get fa_T_28 dx_T_undo_39 (by decide) rfl rfl ?_
      refine x_aload_n dx_T_undo_42 rfl rfl ?_
      refine x_get fa_T_21 dx_T_undo_43 (by decide) rfl rfl ?_
      refine x_cvr0 (c_E_keptRow (σ := stI σ 2 (σ.1 2 - n)) h9 (show σ.1 2 - n < 21 by omega)) cf_T_94 ⟨rfl, rfl, by decide, by decide⟩ ⟨by decide, by decide⟩ (wl_get (by decide)) rfl rfl (Nat.le_of_ble_eq_true rfl) dx_T_undo_46 (fun z u hp => ?_)
      obtain ⟨rfl, rfl⟩ := hp
      refine x_cvi1 (c_V_settle (σ := stI σ 2 (σ.1 2 - n)) (r := (σ.1 2 - n).toNat) hi0.1 (by omega) hi0.2.1 (inv_row hi0).1) cf_T_98 ⟨rfl, rfl, by decide, by decide⟩ ⟨by decide, by decide⟩ (wl_get (by decide)) rfl rfl (Nat.le_of_ble_eq_true rfl) dx_T_undo_49 (fun z u hp => ?_)
      obtain ⟨pF, pO, pz⟩ := hp
      refine x_pop dx_T_undo_52 rfl ?_
      refine x_aload_n dx_T_undo_53 rfl rfl ?_
      refine x_get fa_T_21 dx_T_undo_54 (by decide) rfl rfl ?_
      refine x_get fa_T_89 dx_T_undo_57 (by decide) rfl rfl ?_
      exact hret _ _ _ _ _ _ (by decide) (by decide) ⟨⟨h1, h12⟩, (sn_frv pF : SN (stI σ 2 (σ.1 2 - n)) u), pF.2.2.1, pF.2.2.2.1, inv_less hI h9 (by omega) pF pO pz, rfl⟩ rfl dx_T_undo_60
    ·
      exact hthr rc_jA _ _ _ _ _ _ ⟨rfl, by omega, rfl⟩ tf_T_undo_15 (by decide) (by decide) (Nat.le_of_ble_eq_true rfl)
set_option maxRecDepth 100000 in
set_option maxHeartbeats 4000000 in
theorem c_T_same {l : Launch} {D : va_G} {ca : Nat → ClassId} {ad : Nat → Nat} {σ : S0} {s t : Int} {e1 e2 : Int → Int} (hI : INV σ e1 e2) (hs : Rg s) (ht : Rg t) : CXI l mn_T_same kw_T_same (rmx 7 2 12) 2 12 D ca [.ref (ad 0), .int (zI s), .int (zI t)] (wg 82 LT ca ad σ) (fun z u => In (σ.1 0) s ∧ In (σ.1 0) t ∧ bz (σ.2.1 11 s = σ.2.1 11 t) = z ∧ σ = u) (fun E u => E = rc_jA ∧ ¬ (In (σ.1 0) s ∧ In (σ.1 0) t) ∧ σ = u) (wg 82 LT ca ad) := by
  refine cxi_in rc_T cd_T_same 3 .boolean rfl rfl (by decide) (Nat.le_of_ble_eq_true rfl) ⟨by decide, by decide, by decide, by decide⟩ (fun κ h1 h2 h3 Z hret hthr hout => ?_)
  subst h1; subst h2; subst h3
  refine x_lv [(0, .ref (ad 0)), (1, .int (zI s)), (2, .int (zI t))] rfl ?_
  have hn := hI.1.2.1.2.1
  refine x_aload_n dx_T_same_0 rfl rfl ?_
  refine x_iload_n dx_T_same_1 rfl rfl ?_
  refine x_tv1 (c_T_needNode hI.1.1 hs) cf_T_107 Z ⟨rfl, rfl, by decide, by decide⟩ ⟨by decide, by decide⟩ (wl_get (by decide)) rfl rfl (Nat.le_of_ble_eq_true rfl) dx_T_same_2 (fun E9 u hp => hout _ _ _ _ _ _ (⟨hp.1, fun q => hp.2.1 q.1, hp.2.2⟩) (by decide) (by decide)) (fun u hp => ?_)
  obtain ⟨gs, rfl⟩ := hp
  refine x_aload_n dx_T_same_5 rfl rfl ?_
  refine x_iload_n dx_T_same_6 rfl rfl ?_
  refine x_tv1 (c_T_needNode hI.1.1 ht) cf_T_107 Z ⟨rfl, rfl, by decide, by decide⟩ ⟨by decide, by decide⟩ (wl_get (by decide)) rfl rfl (Nat.le_of_ble_eq_true rfl) dx_T_same_7 (fun E9 u hp => hout _ _ _ _ _ _ (⟨hp.1, fun q => hp.2.1 q.2, hp.2.2⟩) (by decide) (by decide)) (fun u hp => ?_)
  obtain ⟨gt, rfl⟩ := hp
  refine x_aload_n dx_T_same_10 rfl rfl ?_
  refine x_get fa_T_28 dx_T_same_11 (by decide) rfl rfl ?_
  refine x_get fa_T_110 dx_T_same_14 (by decide) rfl rfl ?_
  refine x_iload_n dx_T_same_17 rfl rfl ?_
  refine x_iald dx_T_same_18 (by decide) rfl (by omega) (by omega) (by decide) ?_
  refine x_aload_n dx_T_same_19 rfl rfl ?_
  refine x_get fa_T_28 dx_T_same_20 (by decide) rfl rfl ?_
  refine x_get fa_T_110 dx_T_same_23 (by decide) rfl rfl ?_
  refine x_iload_n dx_T_same_26 rfl rfl ?_
  refine x_iald dx_T_same_27 (by decide) rfl (by omega) (by omega) (by decide) ?_
  refine x_icmp_ne (tgt := 35) dx_T_same_28 (by decide) (hI.1.1.2.1 _ _) (hI.1.1.2.1 _ _) (fun h28 => ?_) (fun h28 => ?_)
  ·
    refine x_iconst dx_T_same_35 ?_
    first
      | exact hret _ _ _ _ _ _ (by decide) (by decide) ⟨gs, gt, bz_t h28, rfl⟩ rfl dx_T_same_36
      | exact hret _ _ _ _ _ _ (by decide) (by decide) ⟨gs, gt, bz_f h28, rfl⟩ rfl dx_T_same_36
  ·
    refine x_iconst dx_T_same_31 ?_
    refine x_goto (tgt := 36) dx_T_same_32 (by decide) ?_
    first
      | exact hret _ _ _ _ _ _ (by decide) (by decide) ⟨gs, gt, bz_t h28, rfl⟩ rfl dx_T_same_36
      | exact hret _ _ _ _ _ _ (by decide) (by decide) ⟨gs, gt, bz_f h28, rfl⟩ rfl dx_T_same_36
set_option maxRecDepth 100000 in
set_option maxHeartbeats 4000000 in
theorem c_T_leader {l : Launch} {D : va_G} {ca : Nat → ClassId} {ad : Nat → Nat} {σ : S0} {s : Int} {e1 e2 : Int → Int} (hI : INV σ e1 e2) (hs : Rg s) : CXI l mn_T_leader kw_T_leader (rmx 7 1 6) 1 6 D ca [.ref (ad 0), .int (zI s)] (wg 82 LT ca ad σ) (fun z u => In (σ.1 0) s ∧ σ.2.1 16 (σ.2.1 11 s) = z ∧ σ = u) (fun E u => E = rc_jA ∧ ¬ In (σ.1 0) s ∧ σ = u) (wg 82 LT ca ad) := by
  refine cxi_in rc_T cd_T_leader 2 .int rfl rfl (by decide) (Nat.le_of_ble_eq_true rfl) ⟨by decide, by decide, by decide, by decide⟩ (fun κ h1 h2 h3 Z hret hthr hout => ?_)
  subst h1; subst h2; subst h3
  refine x_lv [(0, .ref (ad 0)), (1, .int (zI s))] rfl ?_
  have hn := hI.1.2.1.2.1
  refine x_aload_n dx_T_leader_0 rfl rfl ?_
  refine x_iload_n dx_T_leader_1 rfl rfl ?_
  refine x_tv1 (c_T_needNode hI.1.1 hs) cf_T_107 Z ⟨rfl, rfl, by decide, by decide⟩ ⟨by decide, by decide⟩ (wl_get (by decide)) rfl rfl (Nat.le_of_ble_eq_true rfl) dx_T_leader_2 (fun E9 u hp => hout _ _ _ _ _ _ (hp) (by decide) (by decide)) (fun u hp => ?_)
  obtain ⟨gs, rfl⟩ := hp
  have gv := (hI.2.2.2.2.1 s gs).1
  have g40 := hI.2.2.2.1
  refine x_aload_n dx_T_leader_5 rfl rfl ?_
  refine x_get fa_T_28 dx_T_leader_6 (by decide) rfl rfl ?_
  refine x_get fa_T_114 dx_T_leader_9 (by decide) rfl rfl ?_
  refine x_aload_n dx_T_leader_12 rfl rfl ?_
  refine x_get fa_T_28 dx_T_leader_13 (by decide) rfl rfl ?_
  refine x_get fa_T_110 dx_T_leader_16 (by decide) rfl rfl ?_
  refine x_iload_n dx_T_leader_19 rfl rfl ?_
  refine x_iald dx_T_leader_20 (by decide) rfl (by omega) (by omega) (by decide) ?_
  refine x_iald dx_T_leader_21 (by decide) rfl (by omega) (by omega) (by decide) ?_
  exact hret _ _ _ _ _ _ (by decide) (by decide) ⟨gs, rfl, rfl⟩ rfl dx_T_leader_22
set_option maxRecDepth 100000 in
set_option maxHeartbeats 4000000 in
theorem c_T_size {l : Launch} {D : va_G} {ca : Nat → ClassId} {ad : Nat → Nat} {σ : S0} {s : Int} {e1 e2 : Int → Int} (hI : INV σ e1 e2) (hs : Rg s) : CXL l mn_T_size kw_T_size (rmx 7 1 6) 1 6 D ca [.ref (ad 0), .int (zI s)] (wg 82 LT ca ad σ) (fun z u => In (σ.1 0) s ∧ σ.2.2 17 (σ.2.1 11 s) = z ∧ σ = u) (fun E u => E = rc_jA ∧ ¬ In (σ.1 0) s ∧ σ = u) (wg 82 LT ca ad) := by
  refine cxl_in rc_T cd_T_size 2 rfl rfl (by decide) (Nat.le_of_ble_eq_true rfl) ⟨by decide, by decide, by decide, by decide⟩ (fun κ h1 h2 h3 Z hret hthr hout => ?_)
  subst h1; subst h2; subst h3
  refine x_lv [(0, .ref (ad 0)), (1, .int (zI s))] rfl ?_
  have hn := hI.1.2.1.2.1
  refine x_aload_n dx_T_size_0 rfl rfl ?_
  refine x_iload_n dx_T_size_1 rfl rfl ?_
  refine x_tv1 (c_T_needNode hI.1.1 hs) cf_T_107 Z ⟨rfl, rfl, by decide, by decide⟩ ⟨by decide, by decide⟩ (wl_get (by decide)) rfl rfl (Nat.le_of_ble_eq_true rfl) dx_T_size_2 (fun E9 u hp => hout _ _ _ _ _ _ (hp) (by decide) (by decide)) (fun u hp => ?_)
  obtain ⟨gs, rfl⟩ := hp
  have gv := (hI.2.2.2.2.1 s gs).1
  have g40 := hI.2.2.2.1
  refine x_aload_n dx_T_size_5 rfl rfl ?_
  refine x_get fa_T_28 dx_T_size_6 (by decide) rfl rfl ?_
  refine x_get fa_T_117 dx_T_size_9 (by decide) rfl rfl ?_
  refine x_aload_n dx_T_size_12 rfl rfl ?_
  refine x_get fa_T_28 dx_T_size_13 (by decide) rfl rfl ?_
  refine x_get fa_T_110 dx_T_size_16 (by decide) rfl rfl ?_
  refine x_iload_n dx_T_size_19 rfl rfl ?_
  refine x_iald dx_T_size_20 (by decide) rfl (by omega) (by omega) (by decide) ?_
  refine x_lald dx_T_size_21 (by decide) rfl (by omega) (by omega) (by decide) ?_
  exact hret _ _ _ _ _ _ (by decide) (by decide) ⟨gs, rfl, rfl⟩ dx_T_size_22
set_option maxRecDepth 100000 in
set_option maxHeartbeats 4000000 in
theorem c_T_depth {l : Launch} {D : va_G} {ca : Nat → ClassId} {ad : Nat → Nat} {σ : S0} {s : Int} {e1 e2 : Int → Int} (hI : INV σ e1 e2) (hs : Rg s) : CXI l mn_T_depth kw_T_depth (rmx 7 1 6) 1 6 D ca [.ref (ad 0), .int (zI s)] (wg 82 LT ca ad σ) (fun z u => In (σ.1 0) s ∧ σ.2.1 15 (σ.2.1 11 s) = z ∧ σ = u) (fun E u => E = rc_jA ∧ ¬ In (σ.1 0) s ∧ σ = u) (wg 82 LT ca ad) := by
  refine cxi_in rc_T cd_T_depth 2 .int rfl rfl (by decide) (Nat.le_of_ble_eq_true rfl) ⟨by decide, by decide, by decide, by decide⟩ (fun κ h1 h2 h3 Z hret hthr hout => ?_)
  subst h1; subst h2; subst h3
  refine x_lv [(0, .ref (ad 0)), (1, .int (zI s))] rfl ?_
  have hn := hI.1.2.1.2.1
  refine x_aload_n dx_T_depth_0 rfl rfl ?_
  refine x_iload_n dx_T_depth_1 rfl rfl ?_
  refine x_tv1 (c_T_needNode hI.1.1 hs) cf_T_107 Z ⟨rfl, rfl, by decide, by decide⟩ ⟨by decide, by decide⟩ (wl_get (by decide)) rfl rfl (Nat.le_of_ble_eq_true rfl) dx_T_depth_2 (fun E9 u hp => hout _ _ _ _ _ _ (hp) (by decide) (by decide)) (fun u hp => ?_)
  obtain ⟨gs, rfl⟩ := hp
  have gv := (hI.2.2.2.2.1 s gs).1
  have g40 := hI.2.2.2.1
  refine x_aload_n dx_T_depth_5 rfl rfl ?_
  refine x_get fa_T_28 dx_T_depth_6 (by decide) rfl rfl ?_
  refine x_get fa_T_121 dx_T_depth_9 (by decide) rfl rfl ?_
  refine x_aload_n dx_T_depth_12 rfl rfl ?_
  refine x_get fa_T_28 dx_T_depth_13 (by decide) rfl rfl ?_
  refine x_get fa_T_110 dx_T_depth_16 (by decide) rfl rfl ?_
  refine x_iload_n dx_T_depth_19 rfl rfl ?_
  refine x_iald dx_T_depth_20 (by decide) rfl (by omega) (by omega) (by decide) ?_
  refine x_iald dx_T_depth_21 (by decide) rfl (by omega) (by omega) (by decide) ?_
  exact hret _ _ _ _ _ _ (by decide) (by decide) ⟨gs, rfl, rfl⟩ rfl dx_T_depth_22
set_option maxRecDepth 100000 in
set_option maxHeartbeats 4000000 in
theorem c_T_count {l : Launch} {D : va_G} {ca : Nat → ClassId} {ad : Nat → Nat} {σ : S0} {w : Int} {e1 e2 : Int → Int} (hI : INV σ e1 e2) (hw : Rg w) : CXI l mn_T_count kw_T_count (rmx 6 1 6) 1 6 D ca [.ref (ad 0), .int (zI w)] (wg 82 LT ca ad σ) (fun z u => (w = 0 ∨ w = 1 ∨ w = 2) ∧ (if w = 0 then σ.1 0 else if w = 1 then σ.1 2 else σ.1 4) = z ∧ σ = u) (fun E u => E = rc_jA ∧ ¬ (w = 0 ∨ w = 1 ∨ w = 2) ∧ σ = u) (wg 82 LT ca ad) := by
  refine cxi_in rc_T cd_T_count 2 .int rfl rfl (by decide) (Nat.le_of_ble_eq_true rfl) ⟨by decide, by decide, by decide, by decide⟩ (fun κ h1 h2 h3 Z hret hthr hout => ?_)
  subst h1; subst h2; subst h3
  refine x_lv [(0, .ref (ad 0)), (1, .int (zI w))] rfl ?_
  refine x_iload_n dx_T_count_0 rfl rfl ?_
  by_cases c0 : w = 0
  · subst c0
    refine x_tabIn (off := 27) (tgt := 28) dx_T_count_1 ⟨by decide, by decide⟩ (by decide) (by decide) rfl (by decide) ?_
    refine x_aload_n dx_T_count_28 rfl rfl ?_
    refine x_get fa_T_12 dx_T_count_29 (by decide) rfl rfl ?_
    refine x_get fa_T_102 dx_T_count_32 (by decide) rfl rfl ?_
    exact hret _ _ _ _ _ _ (by decide) (by decide) ⟨Or.inl rfl, rfl, rfl⟩ rfl dx_T_count_35
  by_cases c1 : w = 1
  · subst c1
    refine x_tabIn (off := 35) (tgt := 36) dx_T_count_1 ⟨by decide, by decide⟩ (by decide) (by decide) rfl (by decide) ?_
    refine x_aload_n dx_T_count_36 rfl rfl ?_
    refine x_get fa_T_21 dx_T_count_37 (by decide) rfl rfl ?_
    refine x_get fa_T_89 dx_T_count_40 (by decide) rfl rfl ?_
    exact hret _ _ _ _ _ _ (by decide) (by decide) ⟨Or.inr (Or.inl rfl), rfl, rfl⟩ rfl dx_T_count_43
  by_cases c2 : w = 2
  · subst c2
    refine x_tabIn (off := 43) (tgt := 44) dx_T_count_1 ⟨by decide, by decide⟩ (by decide) (by decide) rfl (by decide) ?_
    refine x_aload_n dx_T_count_44 rfl rfl ?_
    refine x_get fa_T_28 dx_T_count_45 (by decide) rfl rfl ?_
    refine x_get fa_T_80 dx_T_count_48 (by decide) rfl rfl ?_
    exact hret _ _ _ _ _ _ (by decide) (by decide) ⟨Or.inr (Or.inr rfl), rfl, rfl⟩ rfl dx_T_count_51
  refine x_tabOut (tgt := 52) dx_T_count_1 hw (by omega) (by decide) ?_
  exact hthr rc_jA _ _ _ _ _ _ ⟨rfl, by omega, rfl⟩ tf_T_count_52 (by decide) (by decide) (Nat.le_of_ble_eq_true rfl)
