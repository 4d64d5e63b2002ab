theorem c_prep {l : Launch} {D : va_G} {ca : Nat → ClassId} {ad : Nat → Nat} {τ σ : S0} (h : REL τ σ) : CV l mn_M_prepare kw_M_prepare (rmk 4) D ca [.ref (ad 0)] (wg 16 LM ca ad σ) (fun u => FPr σ u ∧ Ok u ∧ u.1 4 = 1 ∧ PREP u (τ.2.1 5) (τ.2.1 6) (τ.2.1 7) τ (τ.2.1 11)) (wg 16 LM ca ad) :=
  have R := rel_T h
  c_M_prepare h.2.1 R.1 R.2.1 R.2.2.1 R.2.2.2.1 R.2.2.2.2.1 R.2.2.2.2.2.1 R.2.2.2.2.2.2.1 R.2.2.2.2.2.2.2 h.2.2.2.2.2
set_option maxRecDepth 100000 in
set_option maxHeartbeats 4000000 in
theorem c_M_lacks {l : Launch} {D : va_G} {ca : Nat → ClassId} {ad : Nat → Nat} {σ : S0} {τ : S0} {s t : Int} (h : REL τ σ) (hs : Rg s) (ht : Rg t) : CI l mn_M_lacks kw_M_lacks (rmk 5) D ca [.ref (ad 0), .int (zI s), .int (zI t)] (wg 16 LM ca ad σ) (fun z u => REL τ u ∧ PRE τ u ∧ ((z = 0 ∧ u.1 0 = 0 ∧ (In (τ.1 0) s ∧ In (τ.1 0) t)) ∨ (z = 1 ∧ u.1 0 = 1 ∧ ¬ (In (τ.1 0) s ∧ In (τ.1 0) t)))) (wg 16 LM ca ad) := by
  refine ci_in rc_M cd_M_lacks 3 .boolean rfl rfl (by decide) (Nat.le_of_ble_eq_true rfl) (fun κ h1 h2 h3 hret => ?_)
  subst h1; subst h2; subst h3
  refine x_lv [(0, .ref (ad 0)), (1, .int (zI s)), (2, .int (zI t))] rfl ?_
  have e : σ.1 2 = τ.1 0 := h.2.2.1.1
  refine x_aload_n dx_M_lacks_0 rfl rfl ?_
  refine x_aload_n dx_M_lacks_1 rfl rfl ?_
  refine x_iload_n dx_M_lacks_2 rfl rfl ?_
  refine x_cvi1 (c_M_isNode h.2.1 hs) cf_M_72 ⟨rfl, rfl, by decide, by decide⟩ ⟨Nat.zero_le _, Nat.zero_le _⟩ (wl_get (by decide)) rfl rfl (Nat.le_of_ble_eq_true rfl) dx_M_lacks_3 (fun z u hp => ?_)
  obtain ⟨rfl, rfl⟩ := hp
  refine x_tern 22 1 (fun v => (v = 0 ∧ (In (τ.1 0) s ∧ In (τ.1 0) t)) ∨ (v = 1 ∧ ¬ (In (τ.1 0) s ∧ In (τ.1 0) t))) (fun v6 hv6 => ?_) (fun jn6 => ?_)
  ·
    refine x_put fp_M_57 jo_code dx_M_lacks_22 (by decide) rfl rfl ?_
    refine x_aload_n dx_M_lacks_25 rfl rfl ?_
    refine x_cvv0 (c_prep (rel_0 (v := v6) h ⟨by omega, by omega⟩)) cf_M_118 ⟨rfl, rfl, by decide, by decide⟩ ⟨Nat.zero_le _, Nat.zero_le _⟩ (wl_get (by decide)) rfl rfl (Nat.le_of_ble_eq_true rfl) dx_M_lacks_26 (fun u hp => ?_)
    obtain ⟨f1, f2, f3, f4⟩ := hp
    have h2 := rel_fpr (rel_0 (v := v6) h ⟨by omega, by omega⟩) f1 f2 f3 f4
    have c0 : u.1 0 = v6 := f1.1 0 (by decide)
    refine x_aload_n dx_M_lacks_29 rfl rfl ?_
    refine x_get fa_M_57 dx_M_lacks_30 (by decide) rfl rfl ?_
    refine x_if_le (tgt := 40) dx_M_lacks_33 (by decide) (by rw [c0]; exact ⟨by omega, by omega⟩) (fun h33 => ?_) (fun h33 => ?_)
    ·
      rw [c0] at h33
      refine x_iconst dx_M_lacks_40 ?_
      rcases hv6 with ⟨w1, w2⟩ | ⟨w1, w2⟩
      · first
        | exact hret _ _ _ _ ⟨h2, f4, Or.inl ⟨rfl, c0.trans w1, w2⟩⟩ rfl dx_M_lacks_41
        | omega
      · first
        | exact hret _ _ _ _ ⟨h2, f4, Or.inr ⟨rfl, c0.trans w1, w2⟩⟩ rfl dx_M_lacks_41
        | omega
    ·
      rw [c0] at h33
      refine x_iconst dx_M_lacks_36 ?_
      refine x_goto (tgt := 41) dx_M_lacks_37 (by decide) ?_
      rcases hv6 with ⟨w1, w2⟩ | ⟨w1, w2⟩
      · first
        | exact hret _ _ _ _ ⟨h2, f4, Or.inl ⟨rfl, c0.trans w1, w2⟩⟩ rfl dx_M_lacks_41
        | omega
      · first
        | exact hret _ _ _ _ ⟨h2, f4, Or.inr ⟨rfl, c0.trans w1, w2⟩⟩ rfl dx_M_lacks_41
        | omega
  ·
    refine x_ifb_eq (tgt := 21) dx_M_lacks_6 (by decide) (fun h6 => ?_) (fun h6 => ?_)
    ·
      rw [e] at h6
      refine x_iconst dx_M_lacks_21 ?_
      first
        | exact jn6 _ (Or.inr ⟨rfl, fun q => h6 q.1⟩)
        | exact jn6 _ (Or.inr ⟨rfl, fun q => h14 q.2⟩)
        | exact jn6 _ (Or.inl ⟨rfl, h6, h14⟩)
    ·
      rw [e] at h6
      refine x_aload_n dx_M_lacks_9 rfl rfl ?_
      refine x_iload_n dx_M_lacks_10 rfl rfl ?_
      refine x_cvi1 (c_M_isNode h.2.1 ht) cf_M_72 ⟨rfl, rfl, by decide, by decide⟩ ⟨Nat.zero_le _, Nat.zero_le _⟩ (wl_get (by decide)) rfl rfl (Nat.le_of_ble_eq_true rfl) dx_M_lacks_11 (fun z u hp => ?_)
      obtain ⟨rfl, rfl⟩ := hp
      refine x_ifb_eq (tgt := 21) dx_M_lacks_14 (by decide) (fun h14 => ?_) (fun h14 => ?_)
      ·
        rw [e] at h14
        refine x_iconst dx_M_lacks_21 ?_
        first
          | exact jn6 _ (Or.inr ⟨rfl, fun q => h6 q.1⟩)
          | exact jn6 _ (Or.inr ⟨rfl, fun q => h14 q.2⟩)
          | exact jn6 _ (Or.inl ⟨rfl, h6, h14⟩)
      ·
        rw [e] at h14
        refine x_iconst dx_M_lacks_17 ?_
        refine x_goto (tgt := 22) dx_M_lacks_18 (by decide) ?_
        first
          | exact jn6 _ (Or.inr ⟨rfl, fun q => h6 q.1⟩)
          | exact jn6 _ (Or.inr ⟨rfl, fun q => h14 q.2⟩)
          | exact jn6 _ (Or.inl ⟨rfl, h6, h14⟩)
set_option maxRecDepth 100000 in
set_option maxHeartbeats 4000000 in
theorem c_M_same {l : Launch} {D : va_G} {ca : Nat → ClassId} {ad : Nat → Nat} {σ : S0} {τ : S0} {s t : Int} (h : REL τ σ) (hs : Rg s) (ht : Rg t) : CI l mn_M_same kw_M_same (rmk 6) D ca [.ref (ad 0), .int (zI s), .int (zI t)] (wg 16 LM ca ad σ) (PQ τ (In (τ.1 0) s ∧ In (τ.1 0) t) (bz (τ.2.1 11 s = τ.2.1 11 t))) (wg 16 LM ca ad) := by
  refine ci_in rc_M cd_M_same 3 .boolean rfl rfl (by decide) (Nat.le_of_ble_eq_true rfl) (fun κ h1 h2 h3 hret => ?_)
  subst h1; subst h2; subst h3
  refine x_lv [(0, .ref (ad 0)), (1, .int (zI s)), (2, .int (zI t))] rfl ?_
  refine x_aload_n dx_M_same_0 rfl rfl ?_
  refine x_iload_n dx_M_same_1 rfl rfl ?_
  refine x_iload_n dx_M_same_2 rfl rfl ?_
  refine x_cvi2 (c_M_lacks (s := s) (t := t) h hs ht) cf_M_124 ⟨rfl, rfl, by decide, by decide⟩ ⟨Nat.zero_le _, Nat.zero_le _⟩ (wl_get (by decide)) rfl rfl (Nat.le_of_ble_eq_true rfl) dx_M_same_3 (fun z u hp => ?_)
  obtain ⟨h2, p2, hz⟩ := hp
  have n40 := h2.1.1.2.1.2.1
  refine x_if_ne (tgt := 27) dx_M_same_6 (by decide) (by rcases hz with q | q <;> exact ⟨by omega, by omega⟩) (fun h6 => ?_) (fun h6 => ?_)
  ·
    obtain ⟨-, g0, ng⟩ := hz.resolve_left (fun q => by omega)
    refine x_iconst dx_M_same_27 ?_
    first
      | exact hret _ _ _ _ ⟨h2, Or.inr ⟨ng, g0⟩⟩ rfl dx_M_same_28
      | exact hret _ _ _ _ ⟨h2, Or.inl ⟨⟨is, it⟩, g0, h20⟩⟩ rfl dx_M_same_28
      | exact hret _ _ _ _ ⟨h2, Or.inl ⟨⟨is, it⟩, g0, bz_t (bz_1 h20)⟩⟩ rfl dx_M_same_28
  ·
    obtain ⟨-, g0, is, it⟩ := hz.resolve_right (fun q => by omega)
    obtain ⟨nv, hv, kn, alk⟩ := rel_nv h2 p2
    refine x_aload_n dx_M_same_9 rfl rfl ?_
    refine x_get fa_M_44 dx_M_same_10 (by decide) rfl rfl ?_
    refine x_bipush dx_M_same_13 (by decide) ?_
    refine x_iload_n dx_M_same_15 rfl rfl ?_
    refine x_imul dx_M_same_16 ?_
    refine x_iload_n dx_M_same_17 rfl rfl ?_
    refine x_iadd dx_M_same_18 ?_
    refine x_zald dx_M_same_19 (by decide) rfl (show (0 : Int) ≤ 40 * s + t by omega) (show 40 * s + t < ((1600 : Nat) : Int) by omega) (by decide) ?_
    refine x_if_eq (tgt := 27) dx_M_same_20 (by decide) (h2.2.1.2.1 12 _) (fun h20 => ?_) (fun h20 => ?_)
    ·
      rw [alk s t is it] at h20
      refine x_iconst dx_M_same_27 ?_
      first
        | exact hret _ _ _ _ ⟨h2, Or.inr ⟨ng, g0⟩⟩ rfl dx_M_same_28
        | exact hret _ _ _ _ ⟨h2, Or.inl ⟨⟨is, it⟩, g0, h20⟩⟩ rfl dx_M_same_28
        | exact hret _ _ _ _ ⟨h2, Or.inl ⟨⟨is, it⟩, g0, bz_t (bz_1 h20)⟩⟩ rfl dx_M_same_28
    ·
      rw [alk s t is it] at h20
      refine x_iconst dx_M_same_23 ?_
      refine x_goto (tgt := 28) dx_M_same_24 (by decide) ?_
      first
        | exact hret _ _ _ _ ⟨h2, Or.inr ⟨ng, g0⟩⟩ rfl dx_M_same_28
        | exact hret _ _ _ _ ⟨h2, Or.inl ⟨⟨is, it⟩, g0, h20⟩⟩ rfl dx_M_same_28
        | exact hret _ _ _ _ ⟨h2, Or.inl ⟨⟨is, it⟩, g0, bz_t (bz_1 h20)⟩⟩ rfl dx_M_same_28
set_option maxRecDepth 100000 in
set_option maxHeartbeats 4000000 in
theorem c_M_leader {l : Launch} {D : va_G} {ca : Nat → ClassId} {ad : Nat → Nat} {σ : S0} {τ : S0} {s : Int} (h : REL τ σ) (hs : Rg s) : CI l mn_M_leader kw_M_leader (rmk 6) D ca [.ref (ad 0), .int (zI s)] (wg 16 LM ca ad σ) (PQ τ (In (τ.1 0) s) (τ.2.1 16 (τ.2.1 11 s))) (wg 16 LM ca ad) := by
  refine ci_in rc_M cd_M_leader 3 .int rfl rfl (by decide) (Nat.le_of_ble_eq_true rfl) (fun κ h1 h2 h3 hret => ?_)
  subst h1; subst h2; subst h3
  refine x_lv [(0, .ref (ad 0)), (1, .int (zI s))] rfl ?_
  refine x_aload_n dx_M_leader_0 rfl rfl ?_
  refine x_iload_n dx_M_leader_1 rfl rfl ?_
  refine x_iload_n dx_M_leader_2 rfl rfl ?_
  refine x_cvi2 (c_M_lacks (s := s) (t := s) h hs hs) cf_M_124 ⟨rfl, rfl, by decide, by decide⟩ ⟨Nat.zero_le _, Nat.zero_le _⟩ (wl_get (by decide)) rfl rfl (Nat.le_of_ble_eq_true rfl) dx_M_leader_3 (fun z u hp => ?_)
  obtain ⟨h2, p2, hz⟩ := hp
  have n40 := h2.1.1.2.1.2.1
  refine x_if_eq (tgt := 11) dx_M_leader_6 (by decide) (by rcases hz with q | q <;> exact ⟨by omega, by omega⟩) (fun h6 => ?_) (fun h6 => ?_)
  ·
    obtain ⟨-, g0, is, -⟩ := hz.resolve_right (fun q => by omega)
    obtain ⟨nv, hv, kn, alk⟩ := rel_nv h2 p2
    obtain ⟨l1, l2, l3⟩ := h2.1.2.2.2.2.2.2.2.1 _ (kn s is).1
    refine x_iconst dx_M_leader_11 ?_
    refine x_istore_n dx_M_leader_12 rfl (by decide) ?_
    refine x_lv [(0, .ref (ad 0)), (1, .int (zI s)), (2, .int (zI 0))] rfl ?_
    refine x_loop (fun k : Int => X κ (rmk 6) rc_M cd_M_leader 3 (wg 16 LM κ.2.2.1.2.2 ad u) 0 0 13 [(0, .ref (ad 0)), (1, .int (zI s)), (2, .int (zI k))] []) (fun k => 0 ≤ k ∧ k ≤ τ.2.1 16 (τ.2.1 11 s)) (fun k => (τ.2.1 16 (τ.2.1 11 s) - k).toNat) (fun k hi13 ih13 => ?_) 0 ⟨Int.le_refl _, l1.1⟩
    obtain ⟨k0, k1⟩ := hi13
    refine x_aload_n dx_M_leader_13 rfl rfl ?_
    refine x_get fa_M_44 dx_M_leader_14 (by decide) rfl rfl ?_
    refine x_bipush dx_M_leader_17 (by decide) ?_
    refine x_iload_n dx_M_leader_19 rfl rfl ?_
    refine x_imul dx_M_leader_20 ?_
    refine x_iload_n dx_M_leader_21 rfl rfl ?_
    refine x_iadd dx_M_leader_22 ?_
    refine x_zald dx_M_leader_23 (by decide) rfl (show (0 : Int) ≤ 40 * s + k by omega) (show 40 * s + k < ((1600 : Nat) : Int) by omega) (by decide) ?_
    refine x_if_ne (tgt := 33) dx_M_leader_24 (by decide) (h2.2.1.2.1 12 _) (fun h24 => ?_) (fun h24 => ?_)
    ·
      rw [alk s k is ⟨k0, by omega⟩] at h24
      have e := l3 k ⟨k0, by omega⟩ (bz_1 h24).symm
      refine x_iload_n dx_M_leader_33 rfl rfl ?_
      exact hret _ _ _ _ ⟨h2, Or.inl ⟨is, g0, by omega⟩⟩ rfl dx_M_leader_34
    ·
      rw [alk s k is ⟨k0, by omega⟩] at h24
      have e : k ≠ τ.2.1 16 (τ.2.1 11 s) := fun q => bz_0 h24 (by rw [q]; exact l2.symm)
      refine x_iinc dx_M_leader_27 rfl (by decide) ?_
      refine x_goto (tgt := 13) dx_M_leader_30 (by decide) ?_
      refine x_lv [(0, .ref (ad 0)), (1, .int (zI s)), (2, .int (zI (k + 1)))] rfl ?_
      exact ih13 (k + 1) ⟨by omega, by omega⟩ (by omega)
  ·
    obtain ⟨-, g0, ng⟩ := hz.resolve_left (fun q => by omega)
    have ng : ¬ In (τ.1 0) s := fun q => ng ⟨q, q⟩
    refine x_iconst dx_M_leader_9 ?_
    exact hret _ _ _ _ ⟨h2, Or.inr ⟨ng, g0⟩⟩ rfl dx_M_leader_10
set_option maxRecDepth 100000 in
set_option maxHeartbeats 4000000 in
theorem c_M_size {l : Launch} {D : va_G} {ca : Nat → ClassId} {ad : Nat → Nat} {σ : S0} {τ : S0} {s : Int} (h : REL τ σ) (hs : Rg s) : CL l mn_M_size kw_M_size (rmk 6) D ca [.ref (ad 0), .int (zI s)] (wg 16 LM ca ad σ) (PQ τ (In (τ.1 0) s) (τ.2.2 17 (τ.2.1 11 s))) (wg 16 LM ca ad) := by
  refine cl_in rc_M cd_M_size 2 rfl rfl (by decide) (Nat.le_of_ble_eq_true rfl) (fun κ h1 h2 h3 hret => ?_)
  subst h1; subst h2; subst h3
  refine x_lv [(0, .ref (ad 0)), (1, .int (zI s))] rfl ?_
  refine x_aload_n dx_M_size_0 rfl rfl ?_
  refine x_iload_n dx_M_size_1 rfl rfl ?_
  refine x_iload_n dx_M_size_2 rfl rfl ?_
  refine x_cvi2 (c_M_lacks (s := s) (t := s) h hs hs) cf_M_124 ⟨rfl, rfl, by decide, by decide⟩ ⟨Nat.zero_le _, Nat.zero_le _⟩ (wl_get (by decide)) rfl rfl (Nat.le_of_ble_eq_true rfl) dx_M_size_3 (fun z u hp => ?_)
  obtain ⟨h2, p2, hz⟩ := hp
  have n40 := h2.1.1.2.1.2.1
  refine x_if_eq (tgt := 13) dx_M_size_6 (by decide) (by rcases hz with q | q <;> exact ⟨by omega, by omega⟩) (fun h6 => ?_) (fun h6 => ?_)
  ·
    obtain ⟨-, g0, is, -⟩ := hz.resolve_right (fun q => by omega)
    obtain ⟨nv, hv, kn, alk⟩ := rel_nv h2 p2
    refine x_aload_n dx_M_size_13 rfl rfl ?_
    refine x_get fa_M_34 dx_M_size_14 (by decide) rfl rfl ?_
    refine x_iload_n dx_M_size_17 rfl rfl ?_
    refine x_lald dx_M_size_18 (by decide) rfl (by omega) (by omega) (by decide) ?_
    first
      | exact hret _ _ _ _ ⟨h2, Or.inr ⟨ng, g0⟩⟩ dx_M_size_19
      | exact hret _ _ _ _ ⟨h2, Or.inl ⟨is, g0, (kn s is).2.1.symm⟩⟩ dx_M_size_19
  ·
    obtain ⟨-, g0, ng⟩ := hz.resolve_left (fun q => by omega)
    have ng : ¬ In (τ.1 0) s := fun q => ng ⟨q, q⟩
    refine x_lconst (z := 0) dx_M_size_9 (by decide) ?_
    refine x_goto (tgt := 19) dx_M_size_10 (by decide) ?_
    first
      | exact hret _ _ _ _ ⟨h2, Or.inr ⟨ng, g0⟩⟩ dx_M_size_19
      | exact hret _ _ _ _ ⟨h2, Or.inl ⟨is, g0, (kn s is).2.1.symm⟩⟩ dx_M_size_19
set_option maxRecDepth 100000 in
set_option maxHeartbeats 4000000 in
theorem c_M_depth {l : Launch} {D : va_G} {ca : Nat → ClassId} {ad : Nat → Nat} {σ : S0} {τ : S0} {s : Int} (h : REL τ σ) (hs : Rg s) : CI l mn_M_depth kw_M_depth (rmk 6) D ca [.ref (ad 0), .int (zI s)] (wg 16 LM ca ad σ) (PQ τ (In (τ.1 0) s) (τ.2.1 15 (τ.2.1 11 s))) (wg 16 LM ca ad) := by
  refine ci_in rc_M cd_M_depth 2 .int rfl rfl (by decide) (Nat.le_of_ble_eq_true rfl) (fun κ h1 h2 h3 hret => ?_)
  subst h1; subst h2; subst h3
  refine x_lv [(0, .ref (ad 0)), (1, .int (zI s))] rfl ?_
  refine x_aload_n dx_M_depth_0 rfl rfl ?_
  refine x_iload_n dx_M_depth_1 rfl rfl ?_
  refine x_iload_n dx_M_depth_2 rfl rfl ?_
  refine x_cvi2 (c_M_lacks (s := s) (t := s) h hs hs) cf_M_124 ⟨rfl, rfl, by decide, by decide⟩ ⟨Nat.zero_le _, Nat.zero_le _⟩ (wl_get (by decide)) rfl rfl (Nat.le_of_ble_eq_true rfl) dx_M_depth_3 (fun z u hp => ?_)
  obtain ⟨h2, p2, hz⟩ := hp
  have n40 := h2.1.1.2.1.2.1
  refine x_if_eq (tgt := 13) dx_M_depth_6 (by decide) (by rcases hz with q | q <;> exact ⟨by omega, by omega⟩) (fun h6 => ?_) (fun h6 => ?_)
  ·
    obtain ⟨-, g0, is, -⟩ := hz.resolve_right (fun q => by omega)
    obtain ⟨nv, hv, kn, alk⟩ := rel_nv h2 p2
    refine x_aload_n dx_M_depth_13 rfl rfl ?_
    refine x_get fa_M_38 dx_M_depth_14 (by decide) rfl rfl ?_
    refine x_iload_n dx_M_depth_17 rfl rfl ?_
    refine x_iald dx_M_depth_18 (by decide) rfl (by omega) (by omega) (by decide) ?_
    first
      | exact hret _ _ _ _ ⟨h2, Or.inr ⟨ng, g0⟩⟩ rfl dx_M_depth_19
      | exact hret _ _ _ _ ⟨h2, Or.inl ⟨is, g0, (kn s is).2.2.1.symm⟩⟩ rfl dx_M_depth_19
  ·
    obtain ⟨-, g0, ng⟩ := hz.resolve_left (fun q => by omega)
    have ng : ¬ In (τ.1 0) s := fun q => ng ⟨q, q⟩
    refine x_iconst dx_M_depth_9 ?_
    refine x_goto (tgt := 19) dx_M_depth_10 (by decide) ?_
    first
      | exact hret _ _ _ _ ⟨h2, Or.inr ⟨ng, g0⟩⟩ rfl dx_M_depth_19
      | exact hret _ _ _ _ ⟨h2, Or.inl ⟨is, g0, (kn s is).2.2.1.symm⟩⟩ rfl dx_M_depth_19
set_option maxRecDepth 100000 in
set_option maxHeartbeats 4000000 in
theorem c_M_variables {l : Launch} {D : va_G} {ca : Nat → ClassId} {ad : Nat → Nat} {σ : S0} {τ : S0} {s : Int} (h : REL τ σ) (hs : Rg s) : CI l mn_M_variables kw_M_variables (rmk 6) D ca [.ref (ad 0), .int (zI s)] (wg 16 LM ca ad σ) (PQ τ (In (τ.1 0) s) (pop (τ.2.2 18 (τ.2.1 11 s)))) (wg 16 LM ca ad) := by
  refine ci_in rc_M cd_M_variables 4 .int rfl rfl (by decide) (Nat.le_of_ble_eq_true rfl) (fun κ h1 h2 h3 hret => ?_)
  subst h1; subst h2; subst h3
  refine x_lv [(0, .ref (ad 0)), (1, .int (zI s))] rfl ?_
  refine x_aload_n dx_M_variables_0 rfl rfl ?_
  refine x_iload_n dx_M_variables_1 rfl rfl ?_
  refine x_iload_n dx_M_variables_2 rfl rfl ?_
  refine x_cvi2 (c_M_lacks (s := s) (t := s) h hs hs) cf_M_124 ⟨rfl, rfl, by decide, by decide⟩ ⟨Nat.zero_le _, Nat.zero_le _⟩ (wl_get (by decide)) rfl rfl (Nat.le_of_ble_eq_true rfl) dx_M_variables_3 (fun z u hp => ?_)
  obtain ⟨h2, p2, hz⟩ := hp
  have n40 := h2.1.1.2.1.2.1
  refine x_if_eq (tgt := 11) dx_M_variables_6 (by decide) (by rcases hz with q | q <;> exact ⟨by omega, by omega⟩) (fun h6 => ?_) (fun h6 => ?_)
  ·
    obtain ⟨-, g0, is, -⟩ := hz.resolve_right (fun q => by omega)
    obtain ⟨nv, hv, kn, alk⟩ := rel_nv h2 p2
    obtain ⟨b0, b1, -⟩ := (kn s is).2.2.2
    refine x_iconst dx_M_variables_11 ?_
    refine x_istore_n dx_M_variables_12 rfl (by decide) ?_
    refine x_iconst dx_M_variables_13 ?_
    refine x_istore_n dx_M_variables_14 rfl (by decide) ?_
    refine x_lv [(0, .ref (ad 0)), (1, .int (zI s)), (2, .int (zI (sm (fun k => bz (tb (u.2.2 11 s) k)) (0 : Int).toNat))), (3, .int (zI 0))] rfl ?_
    refine x_loop (fun x : Int => X κ (rmk 6) rc_M cd_M_variables 4 (wg 16 LM κ.2.2.1.2.2 ad u) 0 0 15 [(0, .ref (ad 0)), (1, .int (zI s)), (2, .int (zI (sm (fun k => bz (tb (u.2.2 11 s) k)) (x : Int).toNat))), (3, .int (zI x))] []) (fun x => 0 ≤ x ∧ x ≤ 40) (fun x => (40 - x).toNat) (fun x hi15 ih15 => ?_) 0 ⟨Int.le_refl _, by decide⟩
    obtain ⟨x0, x1⟩ := hi15
    refine x_iload_n dx_M_variables_15 rfl rfl ?_
    refine x_bipush dx_M_variables_16 (by decide) ?_
    refine x_icmp_ge (tgt := 50) dx_M_variables_18 (by decide) ⟨by omega, by omega⟩ ⟨by decide, by decide⟩ (fun h18 => ?_) (fun h18 => ?_)
    ·
      refine x_iload_n dx_M_variables_50 rfl rfl ?_
      have e : x = 40 := by omega
      subst e
      exact hret _ _ _ _ ⟨h2, Or.inl ⟨is, g0, (vars_pop h2 p2 is).symm⟩⟩ rfl dx_M_variables_51
    ·
      refine x_iload_n dx_M_variables_21 rfl rfl ?_
      refine x_aload_n dx_M_variables_22 rfl rfl ?_
      refine x_get fa_M_41 dx_M_variables_23 (by decide) rfl rfl ?_
      refine x_iload_n dx_M_variables_26 rfl rfl ?_
      refine x_lald dx_M_variables_27 (by decide) rfl (by omega) (by omega) (by decide) ?_
      refine x_iload_n dx_M_variables_28 rfl rfl ?_
      refine x_lshr dx_M_variables_29 (shr_zL b0 b1 x0 (by omega)) ?_
      refine x_lconst (z := 1) dx_M_variables_30 (by decide) ?_
      refine x_land dx_M_variables_31 (and1_zL (Nat.lt_of_le_of_lt (Nat.div_le_self _ _) (p2_40N b0 b1))) ?_
      have m2 := Nat.mod_lt ((u.2.2 11 s).toNat / 2 ^ x.toNat) (show 2 > 0 by decide)
      refine x_lconst (z := 1) dx_M_variables_32 (by decide) ?_
      refine x_lcmp dx_M_variables_33 ⟨by omega, by omega⟩ ⟨by decide, by decide⟩ ?_
      refine x_if_ne (tgt := 41) dx_M_variables_34 (by decide) (zc_rg _ _) (fun h34 => ?_) (fun h34 => ?_)
      ·
        have e : bz (tb (u.2.2 11 s) x) = 0 := bz_f (fun q => zc_ne0 h34 (tb_iff.mpr q))
        refine x_iconst dx_M_variables_41 ?_
        refine x_st (show _ = [Value.int (zI (bz (tb (u.2.2 11 s) x))), Value.int (zI (sm (fun k => bz (tb (u.2.2 11 s) k)) x.toNat))] from by rw [e]) ?_
        refine x_iadd dx_M_variables_42 ?_
        refine x_istore_n dx_M_variables_43 rfl (by decide) ?_
        refine x_iinc dx_M_variables_44 rfl (by decide) ?_
        refine x_goto (tgt := 15) dx_M_variables_47 (by decide) ?_
        have es := sm_succ (fun k => bz (tb (u.2.2 11 s) k)) x0
        rw [← es]
        refine x_lv [(0, .ref (ad 0)), (1, .int (zI s)), (2, .int (zI (sm (fun k => bz (tb (u.2.2 11 s) k)) ((x + 1) : Int).toNat))), (3, .int (zI (x + 1)))] rfl ?_
        exact ih15 (x + 1) ⟨by omega, by omega⟩ (by omega)
      ·
        have e : bz (tb (u.2.2 11 s) x) = 1 := bz_t (tb_iff.mp (zc_eq0 h34))
        refine x_iconst dx_M_variables_37 ?_
        refine x_goto (tgt := 42) dx_M_variables_38 (by decide) ?_
        refine x_st (show _ = [Value.int (zI (bz (tb (u.2.2 11 s) x))), Value.int (zI (sm (fun k => bz (tb (u.2.2 11 s) k)) x.toNat))] from by rw [e]) ?_
        refine x_iadd dx_M_variables_42 ?_
        refine x_istore_n dx_M_variables_43 rfl (by decide) ?_
        refine x_iinc dx_M_variables_44 rfl (by decide) ?_
        refine x_goto (tgt := 15) dx_M_variables_47 (by decide) ?_
        have es := sm_succ (fun k => bz (tb (u.2.2 11 s) k)) x0
        rw [← es]
        refine x_lv [(0, .ref (ad 0)), (1, .int (zI s)), (2, .int (zI (sm (fun k => bz (tb (u.2.2 11 s) k)) ((x + 1) : Int).toNat))), (3, .int (zI (x + 1)))] rfl ?_
        exact ih15 (x + 1) ⟨by omega, by omega⟩ (by omega)
  ·
    obtain ⟨-, g0, ng⟩ := hz.resolve_left (fun q => by omega)
    have ng : ¬ In (τ.1 0) s := fun q => ng ⟨q, q⟩
    refine x_iconst dx_M_variables_9 ?_
    exact hret _ _ _ _ ⟨h2, Or.inr ⟨ng, g0⟩⟩ rfl dx_M_variables_10
set_option maxRecDepth 100000 in
set_option maxHeartbeats 4000000 in
theorem c_M_count {l : Launch} {D : va_G} {ca : Nat → ClassId} {ad : Nat → Nat} {σ : S0} {τ : S0} {w : Int} (h : REL τ σ) (hw : Rg w) : CI l mn_M_count kw_M_count (rmk 5) D ca [.ref (ad 0), .int (zI w)] (wg 16 LM ca ad σ) (PQ τ (w = 0 ∨ w = 1 ∨ w = 2) (if w = 0 then τ.1 0 else if w = 1 then τ.1 2 else τ.1 4)) (wg 16 LM ca ad) := by
  refine ci_in rc_M cd_M_count 3 .int rfl rfl (by decide) (Nat.le_of_ble_eq_true rfl) (fun κ h1 h2 h3 hret => ?_)
  subst h1; subst h2; subst h3
  refine x_lv [(0, .ref (ad 0)), (1, .int (zI w))] rfl ?_
  refine x_aload_n dx_M_count_0 rfl rfl ?_
  refine x_iload_n dx_M_count_1 rfl rfl ?_
  refine x_tern 15 1 (fun v => (v = 1 ∧ ¬ (w = 0 ∨ w = 1 ∨ w = 2)) ∨ (v = 0 ∧ (w = 0 ∨ w = 1 ∨ w = 2))) (fun v2 hv2 => ?_) (fun jn2 => ?_)
  ·
    refine x_put fp_M_57 jo_code dx_M_count_15 (by decide) rfl rfl ?_
    refine x_aload_n dx_M_count_18 rfl rfl ?_
    refine x_cvv0 (c_prep (rel_0 (v := v2) h ⟨by omega, by omega⟩)) cf_M_118 ⟨rfl, rfl, by decide, by decide⟩ ⟨Nat.zero_le _, Nat.zero_le _⟩ (wl_get (by decide)) rfl rfl (Nat.le_of_ble_eq_true rfl) dx_M_count_19 (fun u hp => ?_)
    obtain ⟨f1, f2, f3, f4⟩ := hp
    have h2 := rel_fpr (rel_0 (v := v2) h ⟨by omega, by omega⟩) f1 f2 f3 f4
    have c0 : u.1 0 = v2 := f1.1 0 (by decide)
    have e : u.1 2 = τ.1 0 := h2.2.2.1.1
    have e3 : u.1 3 = τ.1 2 := h2.2.2.2.1
    have hT := h2.1.1.2.1
    refine x_aload_n dx_M_count_22 rfl rfl ?_
    refine x_cvi0 (c_M_free h2.2.1 (by rw [e]; exact hT.1) (by rw [e]; exact hT.2.1)) cf_M_121 ⟨rfl, rfl, by decide, by decide⟩ ⟨Nat.zero_le _, Nat.zero_le _⟩ (wl_get (by decide)) rfl rfl (Nat.le_of_ble_eq_true rfl) dx_M_count_23 (fun z u9 hp => ?_)
    obtain ⟨hp1, rfl⟩ := hp
    rw [free_eq h2 f4] at hp1
    subst hp1
    refine x_istore_n dx_M_count_26 rfl (by decide) ?_
    refine x_aload_n dx_M_count_27 rfl rfl ?_
    refine x_get fa_M_57 dx_M_count_28 (by decide) rfl rfl ?_
    refine x_if_le (tgt := 38) dx_M_count_31 (by decide) (by rw [c0]; exact ⟨by omega, by omega⟩) (fun h31 => ?_) (fun h31 => ?_)
    ·
      rw [c0] at h31
      refine x_iload_n dx_M_count_38 rfl rfl ?_
      refine x_if_ne (tgt := 49) dx_M_count_39 (by decide) hw (fun h39 => ?_) (fun h39 => ?_)
      ·
        refine x_iload_n dx_M_count_49 rfl rfl ?_
        refine x_iconst dx_M_count_50 ?_
        refine x_icmp_ne (tgt := 61) dx_M_count_51 (by decide) hw ⟨by decide, by decide⟩ (fun h51 => ?_) (fun h51 => ?_)
        ·
          refine x_iload_n dx_M_count_61 rfl rfl ?_
          rcases hv2 with ⟨w1, w2⟩ | ⟨w1, w2⟩
          · first
            | exact hret _ _ _ _ ⟨h2, Or.inr ⟨w2, c0.trans w1⟩⟩ rfl dx_M_count_62
            | omega
          · first
            | exact hret _ _ _ _ ⟨h2, Or.inl ⟨w2, c0.trans w1, by rw [if_pos h39]; exact e.symm⟩⟩ rfl dx_M_count_62
            | exact hret _ _ _ _ ⟨h2, Or.inl ⟨w2, c0.trans w1, by rw [if_neg h39, if_pos h51]; exact e3.symm⟩⟩ rfl dx_M_count_62
            | exact hret _ _ _ _ ⟨h2, Or.inl ⟨w2, c0.trans w1, by rw [if_neg h39, if_neg h51]⟩⟩ rfl dx_M_count_62
            | omega
        ·
          refine x_aload_n dx_M_count_54 rfl rfl ?_
          refine x_get fa_M_87 dx_M_count_55 (by decide) rfl rfl ?_
          refine x_goto (tgt := 62) dx_M_count_58 (by decide) ?_
          rcases hv2 with ⟨w1, w2⟩ | ⟨w1, w2⟩
          · first
            | exact hret _ _ _ _ ⟨h2, Or.inr ⟨w2, c0.trans w1⟩⟩ rfl dx_M_count_62
            | omega
          · first
            | exact hret _ _ _ _ ⟨h2, Or.inl ⟨w2, c0.trans w1, by rw [if_pos h39]; exact e.symm⟩⟩ rfl dx_M_count_62
            | exact hret _ _ _ _ ⟨h2, Or.inl ⟨w2, c0.trans w1, by rw [if_neg h39, if_pos h51]; exact e3.symm⟩⟩ rfl dx_M_count_62
            | exact hret _ _ _ _ ⟨h2, Or.inl ⟨w2, c0.trans w1, by rw [if_neg h39, if_neg h51]⟩⟩ rfl dx_M_count_62
            | omega
      ·
        refine x_aload_n dx_M_count_42 rfl rfl ?_
        refine x_get fa_M_61 dx_M_count_43 (by decide) rfl rfl ?_
        refine x_goto (tgt := 62) dx_M_count_46 (by decide) ?_
        rcases hv2 with ⟨w1, w2⟩ | ⟨w1, w2⟩
        · first
          | exact hret _ _ _ _ ⟨h2, Or.inr ⟨w2, c0.trans w1⟩⟩ rfl dx_M_count_62
          | omega
        · first
          | exact hret _ _ _ _ ⟨h2, Or.inl ⟨w2, c0.trans w1, by rw [if_pos h39]; exact e.symm⟩⟩ rfl dx_M_count_62
          | exact hret _ _ _ _ ⟨h2, Or.inl ⟨w2, c0.trans w1, by rw [if_neg h39, if_pos h51]; exact e3.symm⟩⟩ rfl dx_M_count_62
          | exact hret _ _ _ _ ⟨h2, Or.inl ⟨w2, c0.trans w1, by rw [if_neg h39, if_neg h51]⟩⟩ rfl dx_M_count_62
          | omega
    ·
      rw [c0] at h31
      refine x_iconst dx_M_count_34 ?_
      refine x_goto (tgt := 62) dx_M_count_35 (by decide) ?_
      rcases hv2 with ⟨w1, w2⟩ | ⟨w1, w2⟩
      · first
        | exact hret _ _ _ _ ⟨h2, Or.inr ⟨w2, c0.trans w1⟩⟩ rfl dx_M_count_62
        | omega
      · first
        | exact hret _ _ _ _ ⟨h2, Or.inl ⟨w2, c0.trans w1, by rw [if_pos h39]; exact e.symm⟩⟩ rfl dx_M_count_62
        | exact hret _ _ _ _ ⟨h2, Or.inl ⟨w2, c0.trans w1, by rw [if_neg h39, if_pos h51]; exact e3.symm⟩⟩ rfl dx_M_count_62
        | exact hret _ _ _ _ ⟨h2, Or.inl ⟨w2, c0.trans w1, by rw [if_neg h39, if_neg h51]⟩⟩ rfl dx_M_count_62
        | omega
  ·
    refine x_if_lt (tgt := 10) dx_M_count_2 (by decide) hw (fun h2 => ?_) (fun h2 => ?_)
    ·
      refine x_iconst dx_M_count_10 ?_
      refine x_goto (tgt := 15) dx_M_count_11 (by decide) ?_
      first
        | exact jn2 _ (Or.inl ⟨rfl, by omega⟩)
        | exact jn2 _ (Or.inr ⟨rfl, by omega⟩)
    ·
      refine x_iload_n dx_M_count_5 rfl rfl ?_
      refine x_iconst dx_M_count_6 ?_
      refine x_icmp_le (tgt := 14) dx_M_count_7 (by decide) hw ⟨by decide, by decide⟩ (fun h7 => ?_) (fun h7 => ?_)
      ·
        refine x_iconst dx_M_count_14 ?_
        first
          | exact jn2 _ (Or.inl ⟨rfl, by omega⟩)
          | exact jn2 _ (Or.inr ⟨rfl, by omega⟩)
      ·
        refine x_iconst dx_M_count_10 ?_
        refine x_goto (tgt := 15) dx_M_count_11 (by decide) ?_
        first
          | exact jn2 _ (Or.inl ⟨rfl, by omega⟩)
          | exact jn2 _ (Or.inr ⟨rfl, by omega⟩)
set_option maxRecDepth 100000 in
set_option maxHeartbeats 4000000 in
theorem c_M_undo {l : Launch} {D : va_G} {ca : Nat → ClassId} {ad : Nat → Nat} {σ : S0} {k : Int} (hs : Ok σ) (hk : Rg k) : CI l mn_M_undo kw_M_undo (rmk 1) D ca [.ref (ad 0), .int (zI k)] (wg 16 LM ca ad σ) (fun z u => ((0 ≤ k ∧ k ≤ σ.1 3) ∧ σ.1 3 - k = z ∧ stI (stI (stI σ 0 0) 3 (σ.1 3 - k)) 4 0 = u) ∨ (¬ (0 ≤ k ∧ k ≤ σ.1 3) ∧ stI σ 0 1 = u)) (wg 16 LM ca ad) := by
  refine ci_in rc_M cd_M_undo 2 .int rfl rfl (by decide) (Nat.le_of_ble_eq_true rfl) (fun κ h1 h2 h3 hret => ?_)
  subst h1; subst h2; subst h3
  refine x_lv [(0, .ref (ad 0)), (1, .int (zI k))] rfl ?_
  refine x_aload_n dx_M_undo_0 rfl rfl ?_
  refine x_iload_n dx_M_undo_1 rfl rfl ?_
  refine x_tern 18 1 (fun v => (v = 1 ∧ ¬ (0 ≤ k ∧ k ≤ σ.1 3)) ∨ (v = 0 ∧ (0 ≤ k ∧ k ≤ σ.1 3))) (fun v2 hv2 => ?_) (fun jn2 => ?_)
  ·
    refine x_put fp_M_57 jo_code dx_M_undo_18 (by decide) rfl rfl ?_
    refine x_aload_n dx_M_undo_21 rfl rfl ?_
    refine x_get fa_M_57 dx_M_undo_22 (by decide) rfl rfl ?_
    refine x_if_le (tgt := 30) dx_M_undo_25 (by decide) (show Rg v2 from ⟨by omega, by omega⟩) (fun h25 => ?_) (fun h25 => ?_)
    ·
      have h25 : v2 ≤ 0 := h25
      have e2 : v2 = 0 := by omega
      subst e2
      refine x_aload_n dx_M_undo_30 rfl rfl ?_
      refine x_dup dx_M_undo_31 rfl ?_
      refine x_get fa_M_87 dx_M_undo_32 (by decide) rfl rfl ?_
      refine x_iload_n dx_M_undo_35 rfl rfl ?_
      refine x_isub dx_M_undo_36 ?_
      refine x_put fp_M_87 jo_equations dx_M_undo_37 (by decide) rfl rfl ?_
      refine x_aload_n dx_M_undo_40 rfl rfl ?_
      refine x_iconst dx_M_undo_41 ?_
      refine x_put fp_M_64 jo_ready dx_M_undo_42 (by decide) rfl rfl ?_
      refine x_aload_n dx_M_undo_45 rfl rfl ?_
      refine x_get fa_M_87 dx_M_undo_46 (by decide) rfl rfl ?_
      exact hret _ _ _ _ (Or.inl ⟨by omega, rfl, rfl⟩) rfl dx_M_undo_49
    ·
      have h25 : 0 < v2 := h25
      have e2 : v2 = 1 := by omega
      subst e2
      refine x_iconst dx_M_undo_28 ?_
      exact hret _ _ _ _ (Or.inr ⟨by omega, rfl⟩) rfl dx_M_undo_29
  ·
    refine x_if_lt (tgt := 13) dx_M_undo_2 (by decide) hk (fun h2 => ?_) (fun h2 => ?_)
    ·
      refine x_iconst dx_M_undo_13 ?_
      refine x_goto (tgt := 18) dx_M_undo_14 (by decide) ?_
      first
        | exact jn2 _ (Or.inl ⟨rfl, by omega⟩)
        | exact jn2 _ (Or.inr ⟨rfl, by omega⟩)
    ·
      refine x_iload_n dx_M_undo_5 rfl rfl ?_
      refine x_aload_n dx_M_undo_6 rfl rfl ?_
      refine x_get fa_M_87 dx_M_undo_7 (by decide) rfl rfl ?_
      refine x_icmp_le (tgt := 17) dx_M_undo_10 (by decide) hk (hs.1 3) (fun h10 => ?_) (fun h10 => ?_)
      ·
        refine x_iconst dx_M_undo_17 ?_
        first
          | exact jn2 _ (Or.inl ⟨rfl, by omega⟩)
          | exact jn2 _ (Or.inr ⟨rfl, by omega⟩)
      ·
        refine x_iconst dx_M_undo_13 ?_
        refine x_goto (tgt := 18) dx_M_undo_14 (by decide) ?_
        first
          | exact jn2 _ (Or.inl ⟨rfl, by omega⟩)
          | exact jn2 _ (Or.inr ⟨rfl, by omega⟩)
set_option maxRecDepth 100000 in
set_option maxHeartbeats 4000000 in
theorem c_M_term {l : Launch} {D : va_G} {ca : Nat → ClassId} {ad : Nat → Nat} {σ : S0} {f a b : Int} (hs : Ok σ) (h0 : 0 ≤ σ.1 2) (h40 : σ.1 2 ≤ 40) (hf : Rg f) (ha : Rg a) (hb : Rg b) : CI l mn_M_term kw_M_term (rmk 2) D ca [.ref (ad 0), .int (zI f), .int (zI a), .int (zI b)] (wg 16 LM ca ad σ) (fun z u => (¬ TermOk (σ.1 2) f a b ∧ stI σ 0 1 = u) ∨ (TermOk (σ.1 2) f a b ∧ σ.1 2 = 40 ∧ stI σ 0 2 = u) ∨ (TermOk (σ.1 2) f a b ∧ σ.1 2 < 40 ∧ σ.1 2 = z ∧ mkm (stI σ 0 0) f (mny a b) a b = u)) (wg 16 LM ca ad) := by
  refine ci_in rc_M cd_M_term 5 .int rfl rfl (by decide) (Nat.le_of_ble_eq_true rfl) (fun κ h1 h2 h3 hret => ?_)
  subst h1; subst h2; subst h3
  refine x_lv [(0, .ref (ad 0)), (1, .int (zI f)), (2, .int (zI a)), (3, .int (zI b))] rfl ?_
  refine x_tern 50 0 (fun v => (v = 0 ∧ ¬ TermOk (σ.1 2) f a b) ∨ (v = 1 ∧ TermOk (σ.1 2) f a b)) (fun v0 hv0 => ?_) (fun jn0 => ?_)
  ·
    refine x_istore dx_M_term_50 (by decide) ?_
    refine x_aload_n dx_M_term_52 rfl rfl ?_
    refine x_iload dx_M_term_53 rfl ?_
    refine x_tern 76 1 (fun v => (v = 1 ∧ ¬ TermOk (σ.1 2) f a b) ∨ (v = 2 ∧ TermOk (σ.1 2) f a b ∧ σ.1 2 = 40) ∨ (v = 0 ∧ TermOk (σ.1 2) f a b ∧ σ.1 2 ≠ 40)) (fun v55 hv55 => ?_) (fun jn55 => ?_)
    ·
      refine x_put fp_M_57 jo_code dx_M_term_76 (by decide) rfl rfl ?_
      refine x_aload_n dx_M_term_79 rfl rfl ?_
      refine x_get fa_M_57 dx_M_term_80 (by decide) rfl rfl ?_
      refine x_if_le (tgt := 90) dx_M_term_83 (by decide) (show Rg v55 from ⟨by omega, by omega⟩) (fun h83 => ?_) (fun h83 => ?_)
      ·
        have h83 : v55 ≤ 0 := h83
        obtain ⟨e2, K1, hn⟩ : v55 = 0 ∧ TermOk (σ.1 2) f a b ∧ σ.1 2 < 40 := by
          rcases hv55 with ⟨q1, q2⟩ | ⟨q1, q2, q3⟩ | ⟨q1, q2, q3⟩
          · omega
          · omega
          · exact ⟨q1, q2, by omega⟩
        subst e2
        refine x_aload_n dx_M_term_90 rfl rfl ?_
        refine x_iload_n dx_M_term_91 rfl rfl ?_
        refine x_iload_n dx_M_term_92 rfl rfl ?_
        refine x_tern 109 1 (fun v => v = mny a b) (fun v93 hv93 => ?_) (fun jn93 => ?_)
        ·
          subst hv93
          refine x_iload_n dx_M_term_109 rfl rfl ?_
          refine x_iload_n dx_M_term_110 rfl rfl ?_
          refine x_cvi4 (c_M_make (σ := stI σ 0 0) h0 hn) cf_M_68 ⟨rfl, rfl, by decide, by decide⟩ ⟨Nat.zero_le _, Nat.zero_le _⟩ (wl_get (by decide)) rfl rfl (Nat.le_of_ble_eq_true rfl) dx_M_term_111 (fun z u hp => ?_)
          obtain ⟨rfl, rfl⟩ := hp
          first
            | exact hret _ _ _ _ (Or.inr (Or.inr ⟨K1, hn, rfl, rfl⟩)) rfl dx_M_term_114
            | exact hret 0 _ _ _ K9 rfl dx_M_term_114
        ·
          refine x_if_ge (tgt := 100) dx_M_term_93 (by decide) ha (fun h93 => ?_) (fun h93 => ?_)
          ·
            refine x_iload_n dx_M_term_100 rfl rfl ?_
            refine x_if_ge (tgt := 108) dx_M_term_101 (by decide) hb (fun h101 => ?_) (fun h101 => ?_)
            ·
              refine x_iconst dx_M_term_108 ?_
              first
                | exact jn93 _ (if_pos (by omega)).symm
                | exact jn93 _ ((if_neg (by omega)).trans (if_pos (by omega))).symm
                | exact jn93 _ ((if_neg (by omega)).trans (if_neg (by omega))).symm
            ·
              refine x_iconst dx_M_term_104 ?_
              refine x_goto (tgt := 109) dx_M_term_105 (by decide) ?_
              first
                | exact jn93 _ (if_pos (by omega)).symm
                | exact jn93 _ ((if_neg (by omega)).trans (if_pos (by omega))).symm
                | exact jn93 _ ((if_neg (by omega)).trans (if_neg (by omega))).symm
          ·
            refine x_iconst dx_M_term_96 ?_
            refine x_goto (tgt := 109) dx_M_term_97 (by decide) ?_
            first
              | exact jn93 _ (if_pos (by omega)).symm
              | exact jn93 _ ((if_neg (by omega)).trans (if_pos (by omega))).symm
              | exact jn93 _ ((if_neg (by omega)).trans (if_neg (by omega))).symm
      ·
        have h83 : 0 < v55 := h83
        have K9 : (¬ TermOk (σ.1 2) f a b ∧ stI σ 0 1 = stI σ 0 v55) ∨ (TermOk (σ.1 2) f a b ∧ σ.1 2 = 40 ∧ stI σ 0 2 = stI σ 0 v55) ∨ (TermOk (σ.1 2) f a b ∧ σ.1 2 < 40 ∧ σ.1 2 = 0 ∧ mkm (stI σ 0 0) f (mny a b) a b = stI σ 0 v55) := by
          rcases hv55 with ⟨q1, q2⟩ | ⟨q1, q2, q3⟩ | ⟨q1, q2, q3⟩
          · exact Or.inl ⟨q2, by rw [q1]⟩
          · exact Or.inr (Or.inl ⟨q2, q3, by rw [q1]⟩)
          · omega
        refine x_iconst dx_M_term_86 ?_
        refine x_goto (tgt := 114) dx_M_term_87 (by decide) ?_
        first
          | exact hret _ _ _ _ (Or.inr (Or.inr ⟨K1, hn, rfl, rfl⟩)) rfl dx_M_term_114
          | exact hret 0 _ _ _ K9 rfl dx_M_term_114
    ·
      refine x_if_ne (tgt := 62) dx_M_term_55 (by decide) ⟨by omega, by omega⟩ (fun h55 => ?_) (fun h55 => ?_)
      ·
        refine x_aload_n dx_M_term_62 rfl rfl ?_
        refine x_get fa_M_61 dx_M_term_63 (by decide) rfl rfl ?_
        refine x_bipush dx_M_term_66 (by decide) ?_
        refine x_icmp_ne (tgt := 75) dx_M_term_68 (by decide) (hs.1 2) ⟨by decide, by decide⟩ (fun h68 => ?_) (fun h68 => ?_)
        ·
          refine x_iconst dx_M_term_75 ?_
          first
            | exact jn55 _ (Or.inl ⟨rfl, (hv0.resolve_right (fun q => by omega)).2⟩)
            | exact jn55 _ (Or.inr (Or.inl ⟨rfl, (hv0.resolve_left (fun q => by omega)).2, h68⟩))
            | exact jn55 _ (Or.inr (Or.inr ⟨rfl, (hv0.resolve_left (fun q => by omega)).2, h68⟩))
        ·
          refine x_iconst dx_M_term_71 ?_
          refine x_goto (tgt := 76) dx_M_term_72 (by decide) ?_
          first
            | exact jn55 _ (Or.inl ⟨rfl, (hv0.resolve_right (fun q => by omega)).2⟩)
            | exact jn55 _ (Or.inr (Or.inl ⟨rfl, (hv0.resolve_left (fun q => by omega)).2, h68⟩))
            | exact jn55 _ (Or.inr (Or.inr ⟨rfl, (hv0.resolve_left (fun q => by omega)).2, h68⟩))
      ·
        refine x_iconst dx_M_term_58 ?_
        refine x_goto (tgt := 76) dx_M_term_59 (by decide) ?_
        first
          | exact jn55 _ (Or.inl ⟨rfl, (hv0.resolve_right (fun q => by omega)).2⟩)
          | exact jn55 _ (Or.inr (Or.inl ⟨rfl, (hv0.resolve_left (fun q => by omega)).2, h68⟩))
          | exact jn55 _ (Or.inr (Or.inr ⟨rfl, (hv0.resolve_left (fun q => by omega)).2, h68⟩))
  ·
    refine x_iload_n dx_M_term_0 rfl rfl ?_
    refine x_if_lt (tgt := 49) dx_M_term_1 (by decide) hf (fun h1 => ?_) (fun h1 => ?_)
    ·
      have K0 : ¬ TermOk (σ.1 2) f a b := fun q => by have := q.1; omega
      refine x_iconst dx_M_term_49 ?_
      first
        | exact jn0 _ (Or.inl ⟨rfl, K0⟩)
        | exact jn0 _ (Or.inr ⟨rfl, ⟨by omega, by omega⟩, by omega, by omega, by omega⟩)
    ·
      refine x_iload_n dx_M_term_4 rfl rfl ?_
      refine x_bipush dx_M_term_5 (by decide) ?_
      refine x_icmp_gt (tgt := 49) dx_M_term_7 (by decide) hf ⟨by decide, by decide⟩ (fun h7 => ?_) (fun h7 => ?_)
      ·
        have K0 : ¬ TermOk (σ.1 2) f a b := fun q => by have := q.1; omega
        refine x_iconst dx_M_term_49 ?_
        first
          | exact jn0 _ (Or.inl ⟨rfl, K0⟩)
          | exact jn0 _ (Or.inr ⟨rfl, ⟨by omega, by omega⟩, by omega, by omega, by omega⟩)
      ·
        refine x_iload_n dx_M_term_10 rfl rfl ?_
        refine x_iconst dx_M_term_11 ?_
        refine x_icmp_eq (tgt := 23) dx_M_term_12 (by decide) ha ⟨by decide, by decide⟩ (fun h12 => ?_) (fun h12 => ?_)
        ·
          refine x_iload_n dx_M_term_23 rfl rfl ?_
          refine x_iconst dx_M_term_24 ?_
          refine x_icmp_eq (tgt := 36) dx_M_term_25 (by decide) hb ⟨by decide, by decide⟩ (fun h25 => ?_) (fun h25 => ?_)
          ·
            refine x_iload_n dx_M_term_36 rfl rfl ?_
            refine x_if_ge (tgt := 45) dx_M_term_37 (by decide) ha (fun h37 => ?_) (fun h37 => ?_)
            ·
              refine x_iconst dx_M_term_45 ?_
              refine x_goto (tgt := 50) dx_M_term_46 (by decide) ?_
              first
                | exact jn0 _ (Or.inl ⟨rfl, K0⟩)
                | exact jn0 _ (Or.inr ⟨rfl, ⟨by omega, by omega⟩, by omega, by omega, by omega⟩)
            ·
              refine x_iload_n dx_M_term_40 rfl rfl ?_
              refine x_iconst dx_M_term_41 ?_
              refine x_icmp_ne (tgt := 49) dx_M_term_42 (by decide) hb ⟨by decide, by decide⟩ (fun h42 => ?_) (fun h42 => ?_)
              ·
                have K0 : ¬ TermOk (σ.1 2) f a b := fun q => by have := q.2.1; have := q.2.2.1; omega
                refine x_iconst dx_M_term_49 ?_
                first
                  | exact jn0 _ (Or.inl ⟨rfl, K0⟩)
                  | exact jn0 _ (Or.inr ⟨rfl, ⟨by omega, by omega⟩, by omega, by omega, by omega⟩)
              ·
                refine x_iconst dx_M_term_45 ?_
                refine x_goto (tgt := 50) dx_M_term_46 (by decide) ?_
                first
                  | exact jn0 _ (Or.inl ⟨rfl, K0⟩)
                  | exact jn0 _ (Or.inr ⟨rfl, ⟨by omega, by omega⟩, by omega, by omega, by omega⟩)
          ·
            refine x_aload_n dx_M_term_28 rfl rfl ?_
            refine x_iload_n dx_M_term_29 rfl rfl ?_
            refine x_cvi1 (c_M_isNode hs hb) cf_M_72 ⟨rfl, rfl, by decide, by decide⟩ ⟨Nat.zero_le _, Nat.zero_le _⟩ (wl_get (by decide)) rfl rfl (Nat.le_of_ble_eq_true rfl) dx_M_term_30 (fun z u hp => ?_)
            obtain ⟨rfl, rfl⟩ := hp
            refine x_ifb_eq (tgt := 49) dx_M_term_33 (by decide) (fun h33 => ?_) (fun h33 => ?_)
            ·
              have K0 : ¬ TermOk (σ.1 2) f a b := fun q => by have := q.2.2.2; omega
              refine x_iconst dx_M_term_49 ?_
              first
                | exact jn0 _ (Or.inl ⟨rfl, K0⟩)
                | exact jn0 _ (Or.inr ⟨rfl, ⟨by omega, by omega⟩, by omega, by omega, by omega⟩)
            ·
              refine x_iload_n dx_M_term_36 rfl rfl ?_
              refine x_if_ge (tgt := 45) dx_M_term_37 (by decide) ha (fun h37 => ?_) (fun h37 => ?_)
              ·
                refine x_iconst dx_M_term_45 ?_
                refine x_goto (tgt := 50) dx_M_term_46 (by decide) ?_
                first
                  | exact jn0 _ (Or.inl ⟨rfl, K0⟩)
                  | exact jn0 _ (Or.inr ⟨rfl, ⟨by omega, by omega⟩, by omega, by omega, by omega⟩)
              ·
                refine x_iload_n dx_M_term_40 rfl rfl ?_
                refine x_iconst dx_M_term_41 ?_
                refine x_icmp_ne (tgt := 49) dx_M_term_42 (by decide) hb ⟨by decide, by decide⟩ (fun h42 => ?_) (fun h42 => ?_)
                ·
                  have K0 : ¬ TermOk (σ.1 2) f a b := fun q => by have := q.2.1; have := q.2.2.1; omega
                  refine x_iconst dx_M_term_49 ?_
                  first
                    | exact jn0 _ (Or.inl ⟨rfl, K0⟩)
                    | exact jn0 _ (Or.inr ⟨rfl, ⟨by omega, by omega⟩, by omega, by omega, by omega⟩)
                ·
                  refine x_iconst dx_M_term_45 ?_
                  refine x_goto (tgt := 50) dx_M_term_46 (by decide) ?_
                  first
                    | exact jn0 _ (Or.inl ⟨rfl, K0⟩)
                    | exact jn0 _ (Or.inr ⟨rfl, ⟨by omega, by omega⟩, by omega, by omega, by omega⟩)
        ·
          refine x_aload_n dx_M_term_15 rfl rfl ?_
          refine x_iload_n dx_M_term_16 rfl rfl ?_
          refine x_cvi1 (c_M_isNode hs ha) cf_M_72 ⟨rfl, rfl, by decide, by decide⟩ ⟨Nat.zero_le _, Nat.zero_le _⟩ (wl_get (by decide)) rfl rfl (Nat.le_of_ble_eq_true rfl) dx_M_term_17 (fun z u hp => ?_)
          obtain ⟨rfl, rfl⟩ := hp
          refine x_ifb_eq (tgt := 49) dx_M_term_20 (by decide) (fun h20 => ?_) (fun h20 => ?_)
          ·
            have K0 : ¬ TermOk (σ.1 2) f a b := fun q => by have := q.2.2.1; omega
            refine x_iconst dx_M_term_49 ?_
            first
              | exact jn0 _ (Or.inl ⟨rfl, K0⟩)
              | exact jn0 _ (Or.inr ⟨rfl, ⟨by omega, by omega⟩, by omega, by omega, by omega⟩)
          ·
            refine x_iload_n dx_M_term_23 rfl rfl ?_
            refine x_iconst dx_M_term_24 ?_
            refine x_icmp_eq (tgt := 36) dx_M_term_25 (by decide) hb ⟨by decide, by decide⟩ (fun h25 => ?_) (fun h25 => ?_)
            ·
              refine x_iload_n dx_M_term_36 rfl rfl ?_
              refine x_if_ge (tgt := 45) dx_M_term_37 (by decide) ha (fun h37 => ?_) (fun h37 => ?_)
              ·
                refine x_iconst dx_M_term_45 ?_
                refine x_goto (tgt := 50) dx_M_term_46 (by decide) ?_
                first
                  | exact jn0 _ (Or.inl ⟨rfl, K0⟩)
                  | exact jn0 _ (Or.inr ⟨rfl, ⟨by omega, by omega⟩, by omega, by omega, by omega⟩)
              ·
                refine x_iload_n dx_M_term_40 rfl rfl ?_
                refine x_iconst dx_M_term_41 ?_
                refine x_icmp_ne (tgt := 49) dx_M_term_42 (by decide) hb ⟨by decide, by decide⟩ (fun h42 => ?_) (fun h42 => ?_)
                ·
                  have K0 : ¬ TermOk (σ.1 2) f a b := fun q => by have := q.2.1; have := q.2.2.1; omega
                  refine x_iconst dx_M_term_49 ?_
                  first
                    | exact jn0 _ (Or.inl ⟨rfl, K0⟩)
                    | exact jn0 _ (Or.inr ⟨rfl, ⟨by omega, by omega⟩, by omega, by omega, by omega⟩)
                ·
                  refine x_iconst dx_M_term_45 ?_
                  refine x_goto (tgt := 50) dx_M_term_46 (by decide) ?_
                  first
                    | exact jn0 _ (Or.inl ⟨rfl, K0⟩)
                    | exact jn0 _ (Or.inr ⟨rfl, ⟨by omega, by omega⟩, by omega, by omega, by omega⟩)
            ·
              refine x_aload_n dx_M_term_28 rfl rfl ?_
              refine x_iload_n dx_M_term_29 rfl rfl ?_
              refine x_cvi1 (c_M_isNode hs hb) cf_M_72 ⟨rfl, rfl, by decide, by decide⟩ ⟨Nat.zero_le _, Nat.zero_le _⟩ (wl_get (by decide)) rfl rfl (Nat.le_of_ble_eq_true rfl) dx_M_term_30 (fun z u hp => ?_)
              obtain ⟨rfl, rfl⟩ := hp
              refine x_ifb_eq (tgt := 49) dx_M_term_33 (by decide) (fun h33 => ?_) (fun h33 => ?_)
              ·
                have K0 : ¬ TermOk (σ.1 2) f a b := fun q => by have := q.2.2.2; omega
                refine x_iconst dx_M_term_49 ?_
                first
                  | exact jn0 _ (Or.inl ⟨rfl, K0⟩)
                  | exact jn0 _ (Or.inr ⟨rfl, ⟨by omega, by omega⟩, by omega, by omega, by omega⟩)
              ·
                refine x_iload_n dx_M_term_36 rfl rfl ?_
                refine x_if_ge (tgt := 45) dx_M_term_37 (by decide) ha (fun h37 => ?_) (fun h37 => ?_)
                ·
                  refine x_iconst dx_M_term_45 ?_
                  refine x_goto (tgt := 50) dx_M_term_46 (by decide) ?_
                  first
                    | exact jn0 _ (Or.inl ⟨rfl, K0⟩)
                    | exact jn0 _ (Or.inr ⟨rfl, ⟨by omega, by omega⟩, by omega, by omega, by omega⟩)
                ·
                  refine x_iload_n dx_M_term_40 rfl rfl ?_
                  refine x_iconst dx_M_term_41 ?_
                  refine x_icmp_ne (tgt := 49) dx_M_term_42 (by decide) hb ⟨by decide, by decide⟩ (fun h42 => ?_) (fun h42 => ?_)
                  ·
                    have K0 : ¬ TermOk (σ.1 2) f a b := fun q => by have := q.2.1; have := q.2.2.1; omega
                    refine x_iconst dx_M_term_49 ?_
                    first
                      | exact jn0 _ (Or.inl ⟨rfl, K0⟩)
                      | exact jn0 _ (Or.inr ⟨rfl, ⟨by omega, by omega⟩, by omega, by omega, by omega⟩)
                  ·
                    refine x_iconst dx_M_term_45 ?_
                    refine x_goto (tgt := 50) dx_M_term_46 (by decide) ?_
                    first
                      | exact jn0 _ (Or.inl ⟨rfl, K0⟩)
                      | exact jn0 _ (Or.inr ⟨rfl, ⟨by omega, by omega⟩, by omega, by omega, by omega⟩)
