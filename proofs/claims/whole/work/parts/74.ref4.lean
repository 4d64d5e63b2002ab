set_option maxRecDepth 100000 in
set_option maxHeartbeats 4000000 in
theorem c_M_solve {l : Launch} {D : va_G} {ca : Nat → ClassId} {ad : Nat → Nat} {σ : S0} {kd fa sa row : Int → Int} {w : S0} {val : Int → Int} (hs : Ok σ) (T : Tb (σ.1 2) kd fa sa) (hT : RT σ (σ.1 2) kd fa sa) (hE0 : 0 ≤ σ.1 3) (h20 : σ.1 3 ≤ 20) (he : ∀ i, 0 ≤ i → i < σ.1 3 → In (σ.1 2) (σ.2.1 5 i) ∧ In (σ.1 2) (σ.2.1 6 i)) (hq : SolH σ kd fa sa row w val) : CI l mn_M_solve kw_M_solve (rmk 3) D ca [.ref (ad 0)] (wg 16 LM ca ad σ) (SolP σ kd fa sa row w val) (wg 16 LM ca ad) := by
  refine ci_in rc_M cd_M_solve 5 .int rfl rfl (by decide) (Nat.le_of_ble_eq_true rfl) (fun κ h1 h2 h3 hret => ?_)
  subst h1; subst h2; subst h3
  refine x_lv [(0, .ref (ad 0))] rfl ?_
  have hR : Eqv (RR σ kd fa sa) := clo_eqv _ _ _ _ _ _ _
  have hC : Cl (σ.1 2) kd fa sa (RR σ kd fa sa) := clo_cl _ _ _ _ _ _ _
  have n40 := T.2.1
  refine x_iconst dx_M_solve_0 ?_
  refine x_istore_n dx_M_solve_1 rfl (by decide) ?_
  refine x_lv [(0, .ref (ad 0)), (1, .int (zI 0))] rfl ?_
  refine x_loop (fun q : Int × S0 => X κ (rmk 3) rc_M cd_M_solve 5 (wg 16 LM κ.2.2.1.2.2 ad q.2) 0 0 2 [(0, .ref (ad 0)), (1, .int (zI q.1))] []) (fun q => 0 ≤ q.1 ∧ q.1 ≤ σ.1 2 ∧ FS σ q.2 ∧ Ok q.2 ∧ ∀ y, In q.1 y → q.2.2.1 7 y = y ∧ q.2.2.2 9 y = 0) (fun q => (σ.1 2 - q.1).toNat) (fun q hi2 ih2 => ?_) (0, σ) ⟨Int.le_refl _, T.1, FS.rfl, hs, fun y hy => by dsimp only at hy; omega⟩
  obtain ⟨x, u⟩ := q
  dsimp only at hi2 ⊢
  obtain ⟨x0, x1, fs, ok, id9⟩ := hi2
  refine x_iload_n dx_M_solve_2 rfl rfl ?_
  refine x_aload_n dx_M_solve_3 rfl rfl ?_
  refine x_get fa_M_61 dx_M_solve_4 (by decide) rfl rfl ?_
  refine x_icmp_ge (tgt := 30) dx_M_solve_7 (by decide) ⟨by omega, by omega⟩ (ok.1 _) (fun h7 => ?_) (fun h7 => ?_)
  ·
    rw [fs.1] at h7
    refine x_iconst dx_M_solve_30 ?_
    refine x_istore_n dx_M_solve_31 rfl (by decide) ?_
    refine x_lv [(0, .ref (ad 0)), (1, .int (zI 0))] rfl ?_
    refine x_loop (fun q : Int × S0 => X κ (rmk 3) rc_M cd_M_solve 5 (wg 16 LM κ.2.2.1.2.2 ad q.2) 0 0 32 [(0, .ref (ad 0)), (1, .int (zI q.1))] []) (fun q => 0 ≤ q.1 ∧ q.1 ≤ σ.1 3 ∧ FS σ q.2 ∧ Ok q.2 ∧ (∀ y, In (σ.1 2) y → q.2.2.2 9 y = 0) ∧ LW (σ.1 2) (q.2.2.1 7) (RR σ kd fa sa) ∧ (∀ i, 0 ≤ i → i < q.1 → q.2.2.1 7 (σ.2.1 5 i) = q.2.2.1 7 (σ.2.1 6 i))) (fun q => (σ.1 3 - q.1).toNat) (fun q hi32 ih32 => ?_) (0, u) ⟨Int.le_refl _, hE0, fs, ok, fun y hy => (id9 y ⟨hy.1, by omega⟩).2, lw_id hR (fun y hy => (id9 y ⟨hy.1, by omega⟩).1), fun i i0 i1 => by dsimp only at i1; omega⟩
    clear fs ok
    obtain ⟨k, u⟩ := q
    dsimp only at hi32 ⊢
    obtain ⟨k0, k1, fs, ok, z9, lw, eq⟩ := hi32
    have u1 : u.1 = σ.1 := fs.1
    have f5 : u.2.1 5 = σ.2.1 5 := fs.2.1 5 (by decide)
    have f6 : u.2.1 6 = σ.2.1 6 := fs.2.1 6 (by decide)
    refine x_iload_n dx_M_solve_32 rfl rfl ?_
    refine x_aload_n dx_M_solve_33 rfl rfl ?_
    refine x_get fa_M_87 dx_M_solve_34 (by decide) rfl rfl ?_
    refine x_icmp_ge (tgt := 63) dx_M_solve_37 (by decide) ⟨by omega, by omega⟩ (ok.1 _) (fun h37 => ?_) (fun h37 => ?_)
    ·
      rw [u1] at h37
      have ek : k = σ.1 3 := Int.le_antisymm k1 h37
      rw [ek] at eq
      refine x_aload_n dx_M_solve_63 rfl rfl ?_
      refine x_cvi0 (c_M_compare (n := σ.1 2) ok T (rt_fs hT fs) hR hC lw) cf_M_90 ⟨rfl, rfl, by decide, by decide⟩ ⟨Nat.zero_le _, Nat.zero_le _⟩ (wl_get (by decide)) rfl rfl (Nat.le_of_ble_eq_true rfl) dx_M_solve_64 (fun z u9 hp => ?_)
      obtain ⟨g9, rfl, rg9, lw9, co9, re9, cz9⟩ := hp
      have B9 : FS σ (stR u 7 g9) ∧ Ok (stR u 7 g9) ∧ (∀ y, In (σ.1 2) y → (stR u 7 g9).2.2 9 y = 0) ∧ LW (σ.1 2) ((stR u 7 g9).2.1 7) (RR σ kd fa sa) ∧ (∀ i, 0 ≤ i → i < σ.1 3 → (stR u 7 g9).2.1 7 (σ.2.1 5 i) = (stR u 7 g9).2.1 7 (σ.2.1 6 i)) ∧ ((z = -1 ∧ Clash (σ.1 2) kd (RR σ kd fa sa)) ∨ (z = 0 ∧ CLO (σ.1 2) kd fa sa ((stR u 7 g9).2.1 7)) ∨ z = 1) := ⟨fs_R fs (by decide) (by decide), ok_stR ok rg9, z9, lw9, fun i i0 i1 => co9 _ _ (he i i0 i1).1 (he i i0 i1).2 (eq i i0 i1), cz9.imp id (fun q => q.imp (fun q => ⟨q.1, q.2.2⟩) (fun q => q.1))⟩
      refine x_istore_n dx_M_solve_67 rfl (by decide) ?_
      refine x_lv [(0, .ref (ad 0)), (1, .int (zI z))] rfl ?_
      refine x_loop (fun q : Int × S0 => X κ (rmk 3) rc_M cd_M_solve 5 (wg 16 LM κ.2.2.1.2.2 ad q.2) 0 0 68 [(0, .ref (ad 0)), (1, .int (zI q.1))] []) (fun q => FS σ q.2 ∧ Ok q.2 ∧ (∀ y, In (σ.1 2) y → q.2.2.2 9 y = 0) ∧ LW (σ.1 2) (q.2.2.1 7) (RR σ kd fa sa) ∧ (∀ i, 0 ≤ i → i < σ.1 3 → q.2.2.1 7 (σ.2.1 5 i) = q.2.2.1 7 (σ.2.1 6 i)) ∧ ((q.1 = -1 ∧ Clash (σ.1 2) kd (RR σ kd fa sa)) ∨ (q.1 = 0 ∧ CLO (σ.1 2) kd fa sa (q.2.2.1 7)) ∨ q.1 = 1)) (fun q => (2 * reps (q.2.2.1 7) (σ.1 2) + q.1).toNat) (fun q hi68 ih68 => ?_) (z, (stR u 7 g9)) B9
      clear fs ok z9 lw eq B9
      obtain ⟨m, v⟩ := q
      dsimp only at hi68 ⊢
      obtain ⟨fs, ok, z9, lw, eq, mm⟩ := hi68
      have mr : -1 ≤ m ∧ m ≤ 1 := by rcases mm with q | q | q <;> omega
      refine x_iload_n dx_M_solve_68 rfl rfl ?_
      refine x_if_le (tgt := 80) dx_M_solve_69 (by decide) ⟨by omega, by omega⟩ (fun h69 => ?_) (fun h69 => ?_)
      ·
        refine x_iload_n dx_M_solve_80 rfl rfl ?_
        refine x_if_ge (tgt := 86) dx_M_solve_81 (by decide) ⟨by omega, by omega⟩ (fun h81 => ?_) (fun h81 => ?_)
        ·
          have CO : CLO (σ.1 2) kd fa sa (v.2.1 7) := by
            rcases mm with q | q | q
            · omega
            · exact q.2
            · omega
          have LQ := lq_of T he lw CO eq
          have NC := clash_no CO LQ
          have RK := hq.resolve_left NC
          refine x_aload_n dx_M_solve_86 rfl rfl ?_
          refine x_cvv0 (c_M_findShapes (n := σ.1 2) ok T (rt_fs hT fs)) cf_M_94 ⟨rfl, rfl, by decide, by decide⟩ ⟨Nat.zero_le _, Nat.zero_le _⟩ (wl_get (by decide)) rfl rfl (Nat.le_of_ble_eq_true rfl) dx_M_solve_87 (fun u9 hp => ?_)
          obtain ⟨hh, rfl, rgh, shp⟩ := hp
          obtain ⟨u0, hu0⟩ : ∃ u0, u0 = stR v 8 hh := ⟨_, rfl⟩
          rw [← hu0]
          have fs0 : FS σ u0 := by rw [hu0]; exact fs_R fs (by decide) (by decide)
          have ok0 : Ok u0 := by rw [hu0]; exact ok_stR ok rgh
          have e7 : u0.2.1 7 = v.2.1 7 := by rw [hu0]; rfl
          have e8 : u0.2.1 8 = hh := by rw [hu0]; rfl
          have e9 : u0.2.2 9 = v.2.2 9 := by rw [hu0]; rfl
          have NV : NVAL (σ.1 2) kd fa sa (u0.2.1 7) (u0.2.1 8) w val := by rw [e7, e8]; exact nval_of T RK.1 lw LQ shp RK.2
          have L0 : LRN σ u0 u0 kd fa sa w val := ⟨fs0, ok0, rfl, rfl, fun y hy => Or.inl (by rw [e9]; exact z9 y hy)⟩
          refine x_iconst dx_M_solve_90 ?_
          refine x_istore_n dx_M_solve_91 rfl (by decide) ?_
          refine x_lv [(0, .ref (ad 0)), (2, .int (zI 1))] rfl ?_
          refine x_loop (fun q : Int × S0 => X κ (rmk 3) rc_M cd_M_solve 5 (wg 16 LM κ.2.2.1.2.2 ad q.2) 0 0 92 [(0, .ref (ad 0)), (2, .int (zI q.1))] []) (fun q => (q.1 = 0 ∨ q.1 = 1) ∧ LRN σ u0 q.2 kd fa sa w val ∧ (q.1 = 0 → ∀ y, In (σ.1 2) y → ¬ CAN fa sa (u0.2.1 8) q.2 y)) (fun q => (2 * (σ.1 2 - cn (σ.1 2) q.2) + q.1).toNat) (fun q hi92 ih92 => ?_) (1, u0) ⟨Or.inr rfl, L0, fun q => by have q : (1 : Int) = 0 := q; omega⟩
          obtain ⟨b0, v1⟩ := q
          dsimp only at hi92 ⊢
          obtain ⟨b1, lr1, no1⟩ := hi92
          have c1 := cn_le T.1 v1
          refine x_iload_n dx_M_solve_92 rfl rfl ?_
          refine x_if_eq (tgt := 139) dx_M_solve_93 (by decide) ⟨by omega, by omega⟩ (fun h93 => ?_) (fun h93 => ?_)
          ·
            have b0z : b0 = 0 := h93
            refine x_iconst dx_M_solve_139 ?_
            refine x_istore_n dx_M_solve_140 rfl (by decide) ?_
            refine x_iconst dx_M_solve_141 ?_
            refine x_istore dx_M_solve_142 (by decide) ?_
            refine x_lv [(0, .ref (ad 0)), (3, .int (zI 1)), (4, .int (zI 0))] rfl ?_
            refine x_loop (fun q : Int × Int => X κ (rmk 3) rc_M cd_M_solve 5 (wg 16 LM κ.2.2.1.2.2 ad v1) 0 0 144 [(0, .ref (ad 0)), (3, .int (zI q.2)), (4, .int (zI q.1))] []) (fun q => 0 ≤ q.1 ∧ q.1 ≤ σ.1 2 ∧ ((q.2 = 1 ∧ ∀ y, In q.1 y → 0 < v1.2.2 9 y) ∨ (q.2 = 0 ∧ ∃ y, In (σ.1 2) y ∧ ¬ 0 < v1.2.2 9 y))) (fun q => (σ.1 2 - q.1).toNat) (fun q hi144 ih144 => ?_) (0, 1) ⟨Int.le_refl _, T.1, Or.inl ⟨rfl, fun y hy => by dsimp only at hy; omega⟩⟩
            obtain ⟨x, a⟩ := q
            dsimp only at hi144 ⊢
            obtain ⟨x0, x1, al⟩ := hi144
            have a01 : a = 0 ∨ a = 1 := by rcases al with q | q <;> omega
            refine x_iload dx_M_solve_144 rfl ?_
            refine x_aload_n dx_M_solve_146 rfl rfl ?_
            refine x_get fa_M_61 dx_M_solve_147 (by decide) rfl rfl ?_
            refine x_icmp_ge (tgt := 178) dx_M_solve_150 (by decide) ⟨by omega, by omega⟩ (lr1.2.1.1 _) (fun h150 => ?_) (fun h150 => ?_)
            ·
              rw [lr1.1.1] at h150
              refine x_iload_n dx_M_solve_178 rfl rfl ?_
              refine x_if_eq (tgt := 186) dx_M_solve_179 (by decide) ⟨by omega, by omega⟩ (fun h179 => ?_) (fun h179 => ?_)
              ·
                refine x_iconst dx_M_solve_186 ?_
                have ALL := kn_all T NV (no1 b0z)
                have e : x = σ.1 2 := Int.le_antisymm x1 h150
                have S9 : SOL v1 kd fa sa w val := by
                  unfold SOL
                  rw [lr1.1.1, lr1.2.2.1, lr1.2.2.2.1]
                  exact ⟨NV, fun y hy => ⟨lr1.2.2.2.2 y hy, fun q => kn_pos (lr1.2.2.2.2 y hy) q, fun q => ALL _ y hy q (Nat.lt_succ_self _)⟩⟩
                have LQ9 : ∀ x y, In (σ.1 2) x → In (σ.1 2) y → (v1.2.1 7 x = v1.2.1 7 y ↔ RR σ kd fa sa x y) := by rw [lr1.2.2.1, e7]; exact LQ
                refine hret _ _ _ _ ⟨lr1.1, lr1.2.1, Or.inr ⟨NC, RK.1, LQ9, S9, ?_⟩⟩ rfl dx_M_solve_187
                rcases al with ⟨a1, a2⟩ | ⟨a1, y, a2, a3⟩
                · first
                  | exact Or.inl ⟨rfl, fun y hy => kn_pos (lr1.2.2.2.2 y hy) (a2 y ⟨hy.1, by omega⟩)⟩
                  | omega
                · first
                  | exact Or.inr ⟨rfl, y, a2, Classical.byContradiction fun q => a3 (ALL _ y a2 q (Nat.lt_succ_self _))⟩
                  | omega
              ·
                refine x_iconst dx_M_solve_182 ?_
                refine x_goto (tgt := 187) dx_M_solve_183 (by decide) ?_
                have ALL := kn_all T NV (no1 b0z)
                have e : x = σ.1 2 := Int.le_antisymm x1 h150
                have S9 : SOL v1 kd fa sa w val := by
                  unfold SOL
                  rw [lr1.1.1, lr1.2.2.1, lr1.2.2.2.1]
                  exact ⟨NV, fun y hy => ⟨lr1.2.2.2.2 y hy, fun q => kn_pos (lr1.2.2.2.2 y hy) q, fun q => ALL _ y hy q (Nat.lt_succ_self _)⟩⟩
                have LQ9 : ∀ x y, In (σ.1 2) x → In (σ.1 2) y → (v1.2.1 7 x = v1.2.1 7 y ↔ RR σ kd fa sa x y) := by rw [lr1.2.2.1, e7]; exact LQ
                refine hret _ _ _ _ ⟨lr1.1, lr1.2.1, Or.inr ⟨NC, RK.1, LQ9, S9, ?_⟩⟩ rfl dx_M_solve_187
                rcases al with ⟨a1, a2⟩ | ⟨a1, y, a2, a3⟩
                · first
                  | exact Or.inl ⟨rfl, fun y hy => kn_pos (lr1.2.2.2.2 y hy) (a2 y ⟨hy.1, by omega⟩)⟩
                  | omega
                · first
                  | exact Or.inr ⟨rfl, y, a2, Classical.byContradiction fun q => a3 (ALL _ y a2 q (Nat.lt_succ_self _))⟩
                  | omega
            ·
              rw [lr1.1.1] at h150
              have ix : In (σ.1 2) x := ⟨x0, h150⟩
              refine x_iload_n dx_M_solve_153 rfl rfl ?_
              refine x_if_eq (tgt := 170) dx_M_solve_154 (by decide) ⟨by omega, by omega⟩ (fun h154 => ?_) (fun h154 => ?_)
              ·
                have K5 : ∃ y, In (σ.1 2) y ∧ ¬ 0 < v1.2.2 9 y := by
                  rcases al with q | q
                  · omega
                  · exact q.2
                refine x_iconst dx_M_solve_170 ?_
                refine x_istore_n dx_M_solve_171 rfl (by decide) ?_
                refine x_iinc dx_M_solve_172 rfl (by decide) ?_
                refine x_goto (tgt := 144) dx_M_solve_175 (by decide) ?_
                first
                  | (refine x_lv [(0, .ref (ad 0)), (3, .int (zI 0)), (4, .int (zI (x + 1)))] rfl ?_; exact ih144 ((x + 1), 0) ⟨by dsimp only; omega, by dsimp only; omega, Or.inr ⟨rfl, K5⟩⟩ (by dsimp only; omega))
                  | (refine x_lv [(0, .ref (ad 0)), (3, .int (zI 1)), (4, .int (zI (x + 1)))] rfl ?_; exact ih144 ((x + 1), 1) ⟨by dsimp only; omega, by dsimp only; omega, Or.inl ⟨rfl, K6⟩⟩ (by dsimp only; omega))
              ·
                refine x_aload_n dx_M_solve_157 rfl rfl ?_
                refine x_iload dx_M_solve_158 rfl ?_
                refine x_cvi1 (c_M_isKnown lr1.2.1 x0 (by omega)) cf_M_80 ⟨rfl, rfl, by decide, by decide⟩ ⟨Nat.zero_le _, Nat.zero_le _⟩ (wl_get (by decide)) rfl rfl (Nat.le_of_ble_eq_true rfl) dx_M_solve_160 (fun z u9 hp => ?_)
                obtain ⟨rfl, rfl⟩ := hp
                refine x_ifb_eq (tgt := 170) dx_M_solve_163 (by decide) (fun h163 => ?_) (fun h163 => ?_)
                ·
                  have K5 : ∃ y, In (σ.1 2) y ∧ ¬ 0 < v1.2.2 9 y := ⟨x, ix, h163⟩
                  refine x_iconst dx_M_solve_170 ?_
                  refine x_istore_n dx_M_solve_171 rfl (by decide) ?_
                  refine x_iinc dx_M_solve_172 rfl (by decide) ?_
                  refine x_goto (tgt := 144) dx_M_solve_175 (by decide) ?_
                  first
                    | (refine x_lv [(0, .ref (ad 0)), (3, .int (zI 0)), (4, .int (zI (x + 1)))] rfl ?_; exact ih144 ((x + 1), 0) ⟨by dsimp only; omega, by dsimp only; omega, Or.inr ⟨rfl, K5⟩⟩ (by dsimp only; omega))
                    | (refine x_lv [(0, .ref (ad 0)), (3, .int (zI 1)), (4, .int (zI (x + 1)))] rfl ?_; exact ih144 ((x + 1), 1) ⟨by dsimp only; omega, by dsimp only; omega, Or.inl ⟨rfl, K6⟩⟩ (by dsimp only; omega))
                ·
                  have K6 : ∀ y, In (x + 1) y → 0 < v1.2.2 9 y := fun y hy => by
                    by_cases c : y = x
                    · rw [c]; exact h163
                    · rcases al with q | q
                      · exact q.2 y ⟨hy.1, by omega⟩
                      · omega
                  refine x_iconst dx_M_solve_166 ?_
                  refine x_goto (tgt := 171) dx_M_solve_167 (by decide) ?_
                  refine x_istore_n dx_M_solve_171 rfl (by decide) ?_
                  refine x_iinc dx_M_solve_172 rfl (by decide) ?_
                  refine x_goto (tgt := 144) dx_M_solve_175 (by decide) ?_
                  first
                    | (refine x_lv [(0, .ref (ad 0)), (3, .int (zI 0)), (4, .int (zI (x + 1)))] rfl ?_; exact ih144 ((x + 1), 0) ⟨by dsimp only; omega, by dsimp only; omega, Or.inr ⟨rfl, K5⟩⟩ (by dsimp only; omega))
                    | (refine x_lv [(0, .ref (ad 0)), (3, .int (zI 1)), (4, .int (zI (x + 1)))] rfl ?_; exact ih144 ((x + 1), 1) ⟨by dsimp only; omega, by dsimp only; omega, Or.inl ⟨rfl, K6⟩⟩ (by dsimp only; omega))
          ·
            refine x_iconst dx_M_solve_96 ?_
            refine x_istore_n dx_M_solve_97 rfl (by decide) ?_
            refine x_iconst dx_M_solve_98 ?_
            refine x_istore_n dx_M_solve_99 rfl (by decide) ?_
            refine x_lv [(0, .ref (ad 0)), (2, .int (zI 0)), (3, .int (zI 0))] rfl ?_
            refine x_loop (fun p : Int × Int × S0 => X κ (rmk 3) rc_M cd_M_solve 5 (wg 16 LM κ.2.2.1.2.2 ad p.2.2) 0 0 100 [(0, .ref (ad 0)), (2, .int (zI p.2.1)), (3, .int (zI p.1))] []) (fun p => 0 ≤ p.1 ∧ p.1 ≤ σ.1 2 ∧ LRN σ u0 p.2.2 kd fa sa w val ∧ ((p.2.1 = 0 ∧ p.2.2 = v1 ∧ ∀ y, In p.1 y → ¬ CAN fa sa (u0.2.1 8) v1 y) ∨ (p.2.1 = 1 ∧ cn (σ.1 2) v1 < cn (σ.1 2) p.2.2))) (fun p => (σ.1 2 - p.1).toNat) (fun p hi100 ih100 => ?_) (0, 0, v1) ⟨Int.le_refl _, T.1, lr1, Or.inl ⟨rfl, rfl, fun y hy => by dsimp only at hy; omega⟩⟩
            obtain ⟨x, b, v2⟩ := p
            dsimp only at hi100 ⊢
            obtain ⟨x0, x1, lr2, cs⟩ := hi100
            have u2 : v2.1 = σ.1 := lr2.1.1
            have b01 : b = 0 ∨ b = 1 := cs.imp (fun q => q.1) (fun q => q.1)
            refine x_iload_n dx_M_solve_100 rfl rfl ?_
            refine x_aload_n dx_M_solve_101 rfl rfl ?_
            refine x_get fa_M_61 dx_M_solve_102 (by decide) rfl rfl ?_
            refine x_icmp_ge (tgt := 136) dx_M_solve_105 (by decide) ⟨by omega, by omega⟩ (lr2.2.1.1 _) (fun h105 => ?_) (fun h105 => ?_)
            ·
              rw [u2] at h105
              refine x_goto (tgt := 92) dx_M_solve_136 (by decide) ?_
              have e : x = σ.1 2 := Int.le_antisymm x1 h105
              refine x_lv [(0, .ref (ad 0)), (2, .int (zI b))] rfl ?_
              exact ih92 (b, v2) ⟨by dsimp only; rcases cs with q | q <;> omega, lr2, fun q y hy => by
                                                            dsimp only at q ⊢
                                                            rcases cs with ⟨c2, c3, c4⟩ | ⟨c2, -⟩
                                                            · rw [c3]; exact c4 y ⟨hy.1, by omega⟩
                                                            · omega⟩ (by
                                                            dsimp only
                                                            have c5 := cn_le T.1 v2
                                                            rcases cs with ⟨c2, c3, -⟩ | ⟨c2, c3⟩
                                                            · rw [c3]; omega
                                                            · omega)
            ·
              rw [u2] at h105
              have ix : In (σ.1 2) x := ⟨x0, h105⟩
              refine x_aload_n dx_M_solve_108 rfl rfl ?_
              refine x_iload_n dx_M_solve_109 rfl rfl ?_
              refine x_cvi1 (c_M_learn (n := σ.1 2) (kd := kd) (fa := fa) (sa := sa) (w := w) (val := val) lr2.2.1 T (rt_fs hT lr2.1) (by rw [lr2.2.2.1, lr2.2.2.2.1]; exact NV) (by rw [lr2.2.2.1, lr2.2.2.2.1]; exact lr2.2.2.2.2) ix) cf_M_97 ⟨rfl, rfl, by decide, by decide⟩ ⟨Nat.zero_le _, Nat.zero_le _⟩ (wl_get (by decide)) rfl rfl (Nat.le_of_ble_eq_true rfl) dx_M_solve_110 (fun z v3 hp => ?_)
              have H : LRN σ u0 v3 kd fa sa w val ∧ (z = 0 ∨ z = 1) ∧ (b = 1 ∨ z = 1 → cn (σ.1 2) v1 < cn (σ.1 2) v3) ∧ (b = 0 → z = 0 → v3 = v1 ∧ ∀ y, In (x + 1) y → ¬ CAN fa sa (u0.2.1 8) v1 y) := by
                rcases hp with ⟨h1, h2, h3⟩ | ⟨h1, ⟨Z, D, M, h2⟩, h3, h4, h5⟩
                · subst h3
                  refine ⟨lr2, Or.inl h1, fun q => ?_, fun q _ => ?_⟩
                  · rcases cs with c | c
                    · omega
                    · exact c.2
                  · rcases cs with ⟨-, c2, c3⟩ | ⟨c, -⟩
                    · refine ⟨c2, fun y hy => ?_⟩
                      by_cases c : y = x
                      · rw [c, ← c2]; rw [lr2.2.2.2.1] at h2; exact h2
                      · exact c3 y ⟨hy.1, by omega⟩
                    · omega
                · refine ⟨lrn_step lr2 h2 h3 h4, Or.inr h1, fun q => ?_, fun _ q => by omega⟩
                  have h5 : cn (σ.1 2) v2 + 1 = cn (σ.1 2) v3 := h5
                  rcases cs with ⟨-, c2, -⟩ | ⟨-, c2⟩
                  · rw [← c2]; omega
                  · omega
              obtain ⟨lr3, z01, K1, K0⟩ := H
              refine x_istore dx_M_solve_113 (by decide) ?_
              refine x_iload_n dx_M_solve_115 rfl rfl ?_
              refine x_if_ne (tgt := 124) dx_M_solve_116 (by decide) ⟨by omega, by omega⟩ (fun h116 => ?_) (fun h116 => ?_)
              ·
                refine x_iconst dx_M_solve_124 ?_
                refine x_goto (tgt := 129) dx_M_solve_125 (by decide) ?_
                refine x_istore_n dx_M_solve_129 rfl (by decide) ?_
                refine x_iinc dx_M_solve_130 rfl (by decide) ?_
                refine x_goto (tgt := 100) dx_M_solve_133 (by decide) ?_
                first
                  | (refine x_lv [(0, .ref (ad 0)), (2, .int (zI 1)), (3, .int (zI (x + 1)))] rfl ?_; exact ih100 ((x + 1), 1, v3) ⟨by dsimp only; omega, by dsimp only; omega, lr3, Or.inr ⟨rfl, K1 (by omega)⟩⟩ (by dsimp only; omega))
                  | (refine x_lv [(0, .ref (ad 0)), (2, .int (zI 0)), (3, .int (zI (x + 1)))] rfl ?_; exact ih100 ((x + 1), 0, v3) ⟨by dsimp only; omega, by dsimp only; omega, lr3, Or.inl ⟨rfl, K0 (by omega) (by omega)⟩⟩ (by dsimp only; omega))
              ·
                refine x_iload dx_M_solve_119 rfl ?_
                refine x_if_eq (tgt := 128) dx_M_solve_121 (by decide) ⟨by omega, by omega⟩ (fun h121 => ?_) (fun h121 => ?_)
                ·
                  refine x_iconst dx_M_solve_128 ?_
                  refine x_istore_n dx_M_solve_129 rfl (by decide) ?_
                  refine x_iinc dx_M_solve_130 rfl (by decide) ?_
                  refine x_goto (tgt := 100) dx_M_solve_133 (by decide) ?_
                  first
                    | (refine x_lv [(0, .ref (ad 0)), (2, .int (zI 1)), (3, .int (zI (x + 1)))] rfl ?_; exact ih100 ((x + 1), 1, v3) ⟨by dsimp only; omega, by dsimp only; omega, lr3, Or.inr ⟨rfl, K1 (by omega)⟩⟩ (by dsimp only; omega))
                    | (refine x_lv [(0, .ref (ad 0)), (2, .int (zI 0)), (3, .int (zI (x + 1)))] rfl ?_; exact ih100 ((x + 1), 0, v3) ⟨by dsimp only; omega, by dsimp only; omega, lr3, Or.inl ⟨rfl, K0 (by omega) (by omega)⟩⟩ (by dsimp only; omega))
                ·
                  refine x_iconst dx_M_solve_124 ?_
                  refine x_goto (tgt := 129) dx_M_solve_125 (by decide) ?_
                  refine x_istore_n dx_M_solve_129 rfl (by decide) ?_
                  refine x_iinc dx_M_solve_130 rfl (by decide) ?_
                  refine x_goto (tgt := 100) dx_M_solve_133 (by decide) ?_
                  first
                    | (refine x_lv [(0, .ref (ad 0)), (2, .int (zI 1)), (3, .int (zI (x + 1)))] rfl ?_; exact ih100 ((x + 1), 1, v3) ⟨by dsimp only; omega, by dsimp only; omega, lr3, Or.inr ⟨rfl, K1 (by omega)⟩⟩ (by dsimp only; omega))
                    | (refine x_lv [(0, .ref (ad 0)), (2, .int (zI 0)), (3, .int (zI (x + 1)))] rfl ?_; exact ih100 ((x + 1), 0, v3) ⟨by dsimp only; omega, by dsimp only; omega, lr3, Or.inl ⟨rfl, K0 (by omega) (by omega)⟩⟩ (by dsimp only; omega))
        ·
          have CL : Clash (σ.1 2) kd (RR σ kd fa sa) := by
            rcases mm with q | q | q
            · exact q.2
            · omega
            · omega
          refine x_iconst dx_M_solve_84 ?_
          exact hret _ _ _ _ ⟨fs, ok, Or.inl ⟨rfl, CL⟩⟩ rfl dx_M_solve_85
      ·
        refine x_aload_n dx_M_solve_72 rfl rfl ?_
        refine x_cvi0 (c_M_compare (n := σ.1 2) ok T (rt_fs hT fs) hR hC lw) cf_M_90 ⟨rfl, rfl, by decide, by decide⟩ ⟨Nat.zero_le _, Nat.zero_le _⟩ (wl_get (by decide)) rfl rfl (Nat.le_of_ble_eq_true rfl) dx_M_solve_73 (fun z u9 hp => ?_)
        obtain ⟨g9, rfl, rg9, lw9, co9, re9, cz9⟩ := hp
        have B9 : FS σ (stR v 7 g9) ∧ Ok (stR v 7 g9) ∧ (∀ y, In (σ.1 2) y → (stR v 7 g9).2.2 9 y = 0) ∧ LW (σ.1 2) ((stR v 7 g9).2.1 7) (RR σ kd fa sa) ∧ (∀ i, 0 ≤ i → i < σ.1 3 → (stR v 7 g9).2.1 7 (σ.2.1 5 i) = (stR v 7 g9).2.1 7 (σ.2.1 6 i)) ∧ ((z = -1 ∧ Clash (σ.1 2) kd (RR σ kd fa sa)) ∨ (z = 0 ∧ CLO (σ.1 2) kd fa sa ((stR v 7 g9).2.1 7)) ∨ z = 1) := ⟨fs_R fs (by decide) (by decide), ok_stR ok rg9, z9, lw9, fun i i0 i1 => co9 _ _ (he i i0 i1).1 (he i i0 i1).2 (eq i i0 i1), cz9.imp id (fun q => q.imp (fun q => ⟨q.1, q.2.2⟩) (fun q => q.1))⟩
        refine x_istore_n dx_M_solve_76 rfl (by decide) ?_
        refine x_goto (tgt := 68) dx_M_solve_77 (by decide) ?_
        refine x_lv [(0, .ref (ad 0)), (1, .int (zI z))] rfl ?_
        exact ih68 (z, (stR v 7 g9)) B9 (by
                                                            dsimp only
                                                            rw [stR_at]
                                                            have q0 := (reps_le g9 T.1).1
                                                            rcases cz9 with q | q | q
                                                            · omega
                                                            · omega
                                                            · omega)
    ·
      rw [u1] at h37
      obtain ⟨i1, i2⟩ := he k k0 h37
      have mk9 := mg_ok hR lw i1 i2 (clo_eq _ _ _ _ _ _ _ k0 h37)
      rw [← f5] at i1
      rw [← f6] at i2
      refine x_aload_n dx_M_solve_40 rfl rfl ?_
      refine x_aload_n dx_M_solve_41 rfl rfl ?_
      refine x_get fa_M_22 dx_M_solve_42 (by decide) rfl rfl ?_
      refine x_iload_n dx_M_solve_45 rfl rfl ?_
      refine x_iald dx_M_solve_46 (by decide) rfl (by omega) (show k < ((20 : Nat) : Int) by omega) (by decide) ?_
      refine x_aload_n dx_M_solve_47 rfl rfl ?_
      refine x_get fa_M_25 dx_M_solve_48 (by decide) rfl rfl ?_
      refine x_iload_n dx_M_solve_51 rfl rfl ?_
      refine x_iald dx_M_solve_52 (by decide) rfl (by omega) (show k < ((20 : Nat) : Int) by omega) (by decide) ?_
      refine x_cvi2 (c_M_merge ok (by rw [u1]; exact T.1) (by rw [u1]; exact T.2.1) (s := u.2.1 5 k) (t := u.2.1 6 k) i1.1 (by omega) i2.1 (by omega)) cf_M_76 ⟨rfl, rfl, by decide, by decide⟩ ⟨Nat.zero_le _, Nat.zero_le _⟩ (wl_get (by decide)) rfl rfl (Nat.le_of_ble_eq_true rfl) dx_M_solve_53 (fun z u9 hp => ?_)
      obtain ⟨-, rfl⟩ := hp
      rw [u1, f5, f6]
      refine x_pop dx_M_solve_56 rfl ?_
      refine x_iinc dx_M_solve_57 rfl (by decide) ?_
      refine x_goto (tgt := 32) dx_M_solve_60 (by decide) ?_
      refine x_lv [(0, .ref (ad 0)), (1, .int (zI (k + 1)))] rfl ?_
      exact ih32 ((k + 1), _) ⟨by dsimp only; omega, by dsimp only; omega, fs_R fs (by decide) (by decide), ok_stR ok (mg_rg (ok.2.1 7)), z9, mk9.1, fun i i0 i1 => by
                                                            dsimp only at i1 ⊢
                                                            rw [if_pos rfl]
                                                            by_cases c : i = k
                                                            · rw [c]; exact mk9.2.1
                                                            · exact mk9.2.2.1 _ _ (he i i0 (by omega)).1 (he i i0 (by omega)).2 (eq i i0 (by omega))⟩ (by dsimp only; omega)
  ·
    rw [fs.1] at h7
    refine x_aload_n dx_M_solve_10 rfl rfl ?_
    refine x_get fa_M_28 dx_M_solve_11 (by decide) rfl rfl ?_
    refine x_iload_n dx_M_solve_14 rfl rfl ?_
    refine x_iload_n dx_M_solve_15 rfl rfl ?_
    refine x_iast dx_M_solve_16 (by decide) rfl (by omega) (by omega) (by decide) ?_
    refine x_aload_n dx_M_solve_17 rfl rfl ?_
    refine x_get fa_M_34 dx_M_solve_18 (by decide) rfl rfl ?_
    refine x_iload_n dx_M_solve_21 rfl rfl ?_
    refine x_lconst (z := 0) dx_M_solve_22 (by decide) ?_
    refine x_last dx_M_solve_23 (by decide) rfl (by omega) (by omega) (by decide) ?_
    refine x_iinc dx_M_solve_24 rfl (by decide) ?_
    refine x_goto (tgt := 2) dx_M_solve_27 (by decide) ?_
    refine x_lv [(0, .ref (ad 0)), (1, .int (zI (x + 1)))] rfl ?_
    exact ih2 ((x + 1), _) ⟨by dsimp only; omega, by dsimp only; omega, fs_L (fs_R fs (by decide) (by decide)) (by decide), ok_stL (ok_stF ok ⟨by omega, by omega⟩) RgL_0, fun y hy => by
                                                            dsimp only at hy ⊢
                                                            show ui (u.2.1 7) x x y = y ∧ ui (u.2.2 9) x 0 y = 0
                                                            by_cases c : y = x
                                                            · rw [c, ui_at, ui_at]; exact ⟨rfl, rfl⟩
                                                            · rw [ui_ne _ _ c, ui_ne _ _ c]; exact id9 y ⟨hy.1, by omega⟩⟩ (by dsimp only; omega)
