theorem w_variable {κ : Kx} {b L bo k n : Nat} {xs : Nat → Int32} {adT adM : Nat → Nat} {i : Int} {τ σ : S0} {f : Int → Int} (hh : LH κ b L xs i k n) (h : REL τ σ) (kk : LK κ b bo adT adM i k n) : X κ room_1 rc_L cd_L_law 8 (WD κ.2.2.1.2.2 adT adM bo (τ, f) σ) k n 108 (lvL b bo adT adM i) [] := by
  obtain ⟨Z, N9, hX, i0, i4, hk, hn⟩ := hh
  refine x_aload_n dx_L_law_108 rfl rfl ?_
  refine x_aload_n dx_L_law_109 rfl rfl ?_
  refine x_sw (c_L_variable (wA := wg 16 LM κ.2.2.1.2.2 adM σ) (e1 := σ.2.1 5) (e2 := σ.2.1 6) h.1) sw_L_66 Z N9 ⟨rfl, rfl, by decide, by decide⟩ ⟨by show k + 2 ≤ 601024; omega, by show n + 12 ≤ 7293034; omega⟩ rfl (Nat.le_of_ble_eq_true rfl) dx_L_law_110 (fun k9 u hc => ?_)
  refine x_istore dx_L_law_113 (by decide) ?_
  refine x_aload_n dx_L_law_115 rfl rfl ?_
  refine x_w wd_wr ?_
  refine x_cvi0 (fr_ci [] _ (c_M_variable h.2.1 (rel_T h).1.1 (rel_T h).1.2.1)) cf_L_71 ⟨rfl, rfl, by decide, by decide⟩ ⟨by show k + 2 ≤ 601024; omega, by show n + 12 ≤ 7293034; omega⟩ wr_at rfl rfl (Nat.le_of_ble_eq_true rfl) dx_L_law_116 (fun z9 σ' hm => ?_)
  refine x_istore dx_L_law_119 (by decide) ?_
  refine x_aload_n dx_L_law_121 rfl rfl ?_
  refine x_cvi0 (fr_ci [] _ c_M_thrown) cf_L_72 ⟨rfl, rfl, by decide, by decide⟩ ⟨by show k + 2 ≤ 601024; omega, by show n + 12 ≤ 7293034; omega⟩ (wr_at (u := u)) rfl rfl (Nat.le_of_ble_eq_true rfl) dx_L_law_122 (fun t9 σ2 ht => ?_)
  obtain ⟨ht, rfl⟩ := ht
  obtain ⟨hR, he, hv⟩ := lq_variable h hc hm
  have rk : Rg k9 := by rw [← he]; exact hR.2.1.1 0
  have et : t9 = k9 := ht.symm.trans he
  refine x_w (w' := WD κ.2.2.1.2.2 adT adM bo u σ') rfl ?_
  refine x_iload dx_L_law_125 rfl ?_
  refine x_icmp_eq (tgt := 132) dx_L_law_127 (by decide) (by rw [et]; exact rk) rk (fun _ => ?_) (fun q => absurd et q)
  refine x_iload dx_L_law_132 rfl ?_
  have fin : X κ room_1 rc_L cd_L_law 8 (WD κ.2.2.1.2.2 adT adM bo u σ') (k + 2) (n + 12) 965 (lvL b bo adT adM i) [] := x_widen (by omega) (by omega) (kk u σ' hR)
  refine x_if_ne (tgt := 149) dx_L_law_134 (by decide) rk (fun _ => ?_) (fun k0 => ?_)
  · refine x_goto (tgt := 965) dx_L_law_149 (by decide) ?_
    exact x_lv (lvL b bo adT adM i) rfl fin
  · refine x_aload_n dx_L_law_137 rfl rfl ?_
    refine x_iconst dx_L_law_138 ?_
    refine x_laldO dx_L_law_139 ?_
    have ev : u.2 0 = sI z9 := hv k0
    rw [ev]
    refine x_iload dx_L_law_140 rfl ?_
    refine x_i2s dx_L_law_142 ?_
    refine x_lcmpE dx_L_law_143 ?_
    refine x_if_eq (tgt := 149) dx_L_law_144 (by decide) Rg_0 (fun _ => ?_) (fun q => absurd rfl q)
    refine x_goto (tgt := 965) dx_L_law_149 (by decide) ?_
    exact x_lv (lvL b bo adT adM i) rfl fin
theorem w_term {κ : Kx} {b L bo k n : Nat} {xs : Nat → Int32} {adT adM : Nat → Nat} {i : Int} {τ σ : S0} {f : Int → Int} (hh : LH κ b L xs i k n) (h : REL τ σ) (kk : LK κ b bo adT adM i k n) : X κ room_1 rc_L cd_L_law 8 (WD κ.2.2.1.2.2 adT adM bo (τ, f) σ) k n 152 (lvL b bo adT adM i) [] := by
  obtain ⟨Z, N9, hX, i0, i4, hk, hn⟩ := hh
  refine x_aload_n dx_L_law_152 rfl rfl ?_
  refine x_aload_n dx_L_law_153 rfl rfl ?_
  refine x_iload dx_L_law_154 rfl ?_
  refine x_iconst dx_L_law_156 ?_
  refine x_iadd dx_L_law_157 ?_
  refine x_sld hX (by omega) (by omega) dx_L_law_158 ?_
  refine x_aload_n dx_L_law_159 rfl rfl ?_
  refine x_iload dx_L_law_160 rfl ?_
  refine x_iconst dx_L_law_162 ?_
  refine x_iadd dx_L_law_163 ?_
  refine x_sld hX (by omega) (by omega) dx_L_law_164 ?_
  refine x_aload_n dx_L_law_165 rfl rfl ?_
  refine x_iload dx_L_law_166 rfl ?_
  refine x_iconst dx_L_law_168 ?_
  refine x_iadd dx_L_law_169 ?_
  refine x_sld hX (by omega) (by omega) dx_L_law_170 ?_
  refine x_aload_n dx_L_law_171 rfl rfl ?_
  refine x_sw (c_L_term (wA := wg 16 LM κ.2.2.1.2.2 adM σ) (e1 := σ.2.1 5) (e2 := σ.2.1 6) h.1 (sx_rg xs (i + 1)) (sx_rg xs (i + 2)) (sx_rg xs (i + 3))) sw_L_75 Z N9 ⟨rfl, rfl, by decide, by decide⟩ ⟨by show k + 4 ≤ 601024; omega, by show n + 24 ≤ 7293034; omega⟩ rfl (Nat.le_of_ble_eq_true rfl) dx_L_law_172 (fun k9 u hc => ?_)
  refine x_istore dx_L_law_175 (by decide) ?_
  refine x_aload_n dx_L_law_177 rfl rfl ?_
  refine x_aload_n dx_L_law_178 rfl rfl ?_
  refine x_iload dx_L_law_179 rfl ?_
  refine x_iconst dx_L_law_181 ?_
  refine x_iadd dx_L_law_182 ?_
  refine x_sld hX (by omega) (by omega) dx_L_law_183 ?_
  refine x_aload_n dx_L_law_184 rfl rfl ?_
  refine x_iload dx_L_law_185 rfl ?_
  refine x_iconst dx_L_law_187 ?_
  refine x_iadd dx_L_law_188 ?_
  refine x_sld hX (by omega) (by omega) dx_L_law_189 ?_
  refine x_aload_n dx_L_law_190 rfl rfl ?_
  refine x_iload dx_L_law_191 rfl ?_
  refine x_iconst dx_L_law_193 ?_
  refine x_iadd dx_L_law_194 ?_
  refine x_sld hX (by omega) (by omega) dx_L_law_195 ?_
  refine x_w wd_wr ?_
  refine x_cvi3 (fr_ci [] _ (c_M_term h.2.1 (rel_T h).1.1 (rel_T h).1.2.1 (sx_rg xs (i + 1)) (sx_rg xs (i + 2)) (sx_rg xs (i + 3)))) cf_L_78 ⟨rfl, rfl, by decide, by decide⟩ ⟨by show k + 4 ≤ 601024; omega, by show n + 24 ≤ 7293034; omega⟩ wr_at rfl rfl (Nat.le_of_ble_eq_true rfl) dx_L_law_196 (fun z9 σ' hm => ?_)
  refine x_istore dx_L_law_199 (by decide) ?_
  refine x_aload_n dx_L_law_201 rfl rfl ?_
  refine x_cvi0 (fr_ci [] _ c_M_thrown) cf_L_72 ⟨rfl, rfl, by decide, by decide⟩ ⟨by show k + 4 ≤ 601024; omega, by show n + 24 ≤ 7293034; omega⟩ (wr_at (u := u)) rfl rfl (Nat.le_of_ble_eq_true rfl) dx_L_law_202 (fun t9 σ2 ht => ?_)
  obtain ⟨ht, rfl⟩ := ht
  obtain ⟨hR, he, hv⟩ := lq_term h (sx_rg xs (i + 1)) (sx_rg xs (i + 2)) (sx_rg xs (i + 3)) hc hm
  have rk : Rg k9 := by rw [← he]; exact hR.2.1.1 0
  have et : t9 = k9 := ht.symm.trans he
  refine x_w (w' := WD κ.2.2.1.2.2 adT adM bo u σ') rfl ?_
  refine x_iload dx_L_law_205 rfl ?_
  refine x_icmp_eq (tgt := 212) dx_L_law_207 (by decide) (by rw [et]; exact rk) rk (fun _ => ?_) (fun q => absurd et q)
  refine x_iload dx_L_law_212 rfl ?_
  have fin : X κ room_1 rc_L cd_L_law 8 (WD κ.2.2.1.2.2 adT adM bo u σ') (k + 4) (n + 24) 965 (lvL b bo adT adM i) [] := x_widen (by omega) (by omega) (kk u σ' hR)
  refine x_if_ne (tgt := 229) dx_L_law_214 (by decide) rk (fun _ => ?_) (fun k0 => ?_)
  · refine x_goto (tgt := 965) dx_L_law_229 (by decide) ?_
    exact x_lv (lvL b bo adT adM i) rfl fin
  · refine x_aload_n dx_L_law_217 rfl rfl ?_
    refine x_iconst dx_L_law_218 ?_
    refine x_laldO dx_L_law_219 ?_
    have ev : u.2 0 = sI z9 := hv k0
    rw [ev]
    refine x_iload dx_L_law_220 rfl ?_
    refine x_i2s dx_L_law_222 ?_
    refine x_lcmpE dx_L_law_223 ?_
    refine x_if_eq (tgt := 229) dx_L_law_224 (by decide) Rg_0 (fun _ => ?_) (fun q => absurd rfl q)
    refine x_goto (tgt := 965) dx_L_law_229 (by decide) ?_
    exact x_lv (lvL b bo adT adM i) rfl fin
theorem w_unify {κ : Kx} {b L bo k n : Nat} {xs : Nat → Int32} {adT adM : Nat → Nat} {i : Int} {τ σ : S0} {f : Int → Int} (hh : LH κ b L xs i k n) (h : REL τ σ) (kk : LK κ b bo adT adM i k n) : X κ room_1 rc_L cd_L_law 8 (WD κ.2.2.1.2.2 adT adM bo (τ, f) σ) k n 232 (lvL b bo adT adM i) [] := by
  obtain ⟨Z, N9, hX, i0, i4, hk, hn⟩ := hh
  refine x_aload_n dx_L_law_232 rfl rfl ?_
  refine x_aload_n dx_L_law_233 rfl rfl ?_
  refine x_iload dx_L_law_234 rfl ?_
  refine x_iconst dx_L_law_236 ?_
  refine x_iadd dx_L_law_237 ?_
  refine x_sld hX (by omega) (by omega) dx_L_law_238 ?_
  refine x_aload_n dx_L_law_239 rfl rfl ?_
  refine x_iload dx_L_law_240 rfl ?_
  refine x_iconst dx_L_law_242 ?_
  refine x_iadd dx_L_law_243 ?_
  refine x_sld hX (by omega) (by omega) dx_L_law_244 ?_
  refine x_aload_n dx_L_law_245 rfl rfl ?_
  refine x_sw (c_L_unify (wA := wg 16 LM κ.2.2.1.2.2 adM σ) (ui_ext h) (sx_rg xs (i + 1)) (sx_rg xs (i + 2)) (by rw [← h.2.2.2.1]; exact ui_at _ _ _) (by rw [← h.2.2.2.1]; exact ui_at _ _ _)) sw_L_79 Z N9 ⟨rfl, rfl, by decide, by decide⟩ ⟨by show k + 2 ≤ 601024; omega, by show n + 12 ≤ 7293034; omega⟩ rfl (Nat.le_of_ble_eq_true rfl) dx_L_law_246 (fun k9 u hc => ?_)
  refine x_istore dx_L_law_249 (by decide) ?_
  refine x_aload_n dx_L_law_251 rfl rfl ?_
  refine x_aload_n dx_L_law_252 rfl rfl ?_
  refine x_iload dx_L_law_253 rfl ?_
  refine x_iconst dx_L_law_255 ?_
  refine x_iadd dx_L_law_256 ?_
  refine x_sld hX (by omega) (by omega) dx_L_law_257 ?_
  refine x_aload_n dx_L_law_258 rfl rfl ?_
  refine x_iload dx_L_law_259 rfl ?_
  refine x_iconst dx_L_law_261 ?_
  refine x_iadd dx_L_law_262 ?_
  refine x_sld hX (by omega) (by omega) dx_L_law_263 ?_
  refine x_w wd_wr ?_
  refine x_cvi2 (fr_ci [] _ (c_M_unify (τ' := u.1) h (sx_rg xs (i + 1)) (sx_rg xs (i + 2)) (fun hin h20 => lq_uok hc hin h20))) cf_L_82 ⟨rfl, rfl, by decide, by decide⟩ ⟨by show k + 2 ≤ 601024; omega, by show n + 12 ≤ 7293034; omega⟩ wr_at rfl rfl (Nat.le_of_ble_eq_true rfl) dx_L_law_264 (fun z9 σ' hm => ?_)
  refine x_istore dx_L_law_267 (by decide) ?_
  refine x_aload_n dx_L_law_269 rfl rfl ?_
  refine x_cvi0 (fr_ci [] _ c_M_thrown) cf_L_72 ⟨rfl, rfl, by decide, by decide⟩ ⟨by show k + 2 ≤ 601024; omega, by show n + 12 ≤ 7293034; omega⟩ (wr_at (u := u)) rfl rfl (Nat.le_of_ble_eq_true rfl) dx_L_law_270 (fun t9 σ2 ht => ?_)
  obtain ⟨ht, rfl⟩ := ht
  obtain ⟨hR, he, hv⟩ := lq_unify h hc hm
  have rk : Rg k9 := by rw [← he]; exact hR.2.1.1 0
  have et : t9 = k9 := ht.symm.trans he
  refine x_w (w' := WD κ.2.2.1.2.2 adT adM bo u σ') rfl ?_
  refine x_iload dx_L_law_273 rfl ?_
  refine x_icmp_eq (tgt := 280) dx_L_law_275 (by decide) (by rw [et]; exact rk) rk (fun _ => ?_) (fun q => absurd et q)
  refine x_iload dx_L_law_280 rfl ?_
  have fin : X κ room_1 rc_L cd_L_law 8 (WD κ.2.2.1.2.2 adT adM bo u σ') (k + 2) (n + 12) 965 (lvL b bo adT adM i) [] := x_widen (by omega) (by omega) (kk u σ' hR)
  refine x_if_ne (tgt := 297) dx_L_law_282 (by decide) rk (fun _ => ?_) (fun k0 => ?_)
  · refine x_goto (tgt := 965) dx_L_law_297 (by decide) ?_
    exact x_lv (lvL b bo adT adM i) rfl fin
  · refine x_aload_n dx_L_law_285 rfl rfl ?_
    refine x_iconst dx_L_law_286 ?_
    refine x_laldO dx_L_law_287 ?_
    have ev : u.2 0 = sI z9 := hv k0
    rw [ev]
    refine x_iload dx_L_law_288 rfl ?_
    refine x_i2s dx_L_law_290 ?_
    refine x_lcmpE dx_L_law_291 ?_
    refine x_if_eq (tgt := 297) dx_L_law_292 (by decide) Rg_0 (fun _ => ?_) (fun q => absurd rfl q)
    refine x_goto (tgt := 965) dx_L_law_297 (by decide) ?_
    exact x_lv (lvL b bo adT adM i) rfl fin
theorem w_undo {κ : Kx} {b L bo k n : Nat} {xs : Nat → Int32} {adT adM : Nat → Nat} {i : Int} {τ σ : S0} {f : Int → Int} (hh : LH κ b L xs i k n) (h : REL τ σ) (kk : LK κ b bo adT adM i k n) : X κ room_1 rc_L cd_L_law 8 (WD κ.2.2.1.2.2 adT adM bo (τ, f) σ) k n 313 (lvL b bo adT adM i) [] := by
  obtain ⟨Z, N9, hX, i0, i4, hk, hn⟩ := hh
  refine x_aload_n dx_L_law_313 rfl rfl ?_
  refine x_aload_n dx_L_law_314 rfl rfl ?_
  refine x_iload dx_L_law_315 rfl ?_
  refine x_iconst dx_L_law_317 ?_
  refine x_iadd dx_L_law_318 ?_
  refine x_sld hX (by omega) (by omega) dx_L_law_319 ?_
  refine x_aload_n dx_L_law_320 rfl rfl ?_
  refine x_sw (c_L_undo (wA := wg 16 LM κ.2.2.1.2.2 adM σ) (e1 := σ.2.1 5) (e2 := σ.2.1 6) h.1 (sx_rg xs (i + 1))) sw_L_87 Z N9 ⟨rfl, rfl, by decide, by decide⟩ ⟨by show k + 2 ≤ 601024; omega, by show n + 12 ≤ 7293034; omega⟩ rfl (Nat.le_of_ble_eq_true rfl) dx_L_law_321 (fun k9 u hc => ?_)
  refine x_istore dx_L_law_324 (by decide) ?_
  refine x_aload_n dx_L_law_326 rfl rfl ?_
  refine x_aload_n dx_L_law_327 rfl rfl ?_
  refine x_iload dx_L_law_328 rfl ?_
  refine x_iconst dx_L_law_330 ?_
  refine x_iadd dx_L_law_331 ?_
  refine x_sld hX (by omega) (by omega) dx_L_law_332 ?_
  refine x_w wd_wr ?_
  refine x_cvi1 (fr_ci [] _ (c_M_undo h.2.1 (sx_rg xs (i + 1)))) cf_L_90 ⟨rfl, rfl, by decide, by decide⟩ ⟨by show k + 2 ≤ 601024; omega, by show n + 12 ≤ 7293034; omega⟩ wr_at rfl rfl (Nat.le_of_ble_eq_true rfl) dx_L_law_333 (fun z9 σ' hm => ?_)
  refine x_istore dx_L_law_336 (by decide) ?_
  refine x_aload_n dx_L_law_338 rfl rfl ?_
  refine x_cvi0 (fr_ci [] _ c_M_thrown) cf_L_72 ⟨rfl, rfl, by decide, by decide⟩ ⟨by show k + 2 ≤ 601024; omega, by show n + 12 ≤ 7293034; omega⟩ (wr_at (u := u)) rfl rfl (Nat.le_of_ble_eq_true rfl) dx_L_law_339 (fun t9 σ2 ht => ?_)
  obtain ⟨ht, rfl⟩ := ht
  obtain ⟨hR, he, hv⟩ := lq_undo h hc hm
  have rk : Rg k9 := by rw [← he]; exact hR.2.1.1 0
  have et : t9 = k9 := ht.symm.trans he
  refine x_w (w' := WD κ.2.2.1.2.2 adT adM bo u σ') rfl ?_
  refine x_iload dx_L_law_342 rfl ?_
  refine x_icmp_eq (tgt := 349) dx_L_law_344 (by decide) (by rw [et]; exact rk) rk (fun _ => ?_) (fun q => absurd et q)
  refine x_iload dx_L_law_349 rfl ?_
  have fin : X κ room_1 rc_L cd_L_law 8 (WD κ.2.2.1.2.2 adT adM bo u σ') (k + 2) (n + 12) 965 (lvL b bo adT adM i) [] := x_widen (by omega) (by omega) (kk u σ' hR)
  refine x_if_ne (tgt := 366) dx_L_law_351 (by decide) rk (fun _ => ?_) (fun k0 => ?_)
  · refine x_goto (tgt := 965) dx_L_law_366 (by decide) ?_
    exact x_lv (lvL b bo adT adM i) rfl fin
  · refine x_aload_n dx_L_law_354 rfl rfl ?_
    refine x_iconst dx_L_law_355 ?_
    refine x_laldO dx_L_law_356 ?_
    have ev : u.2 0 = sI z9 := hv k0
    rw [ev]
    refine x_iload dx_L_law_357 rfl ?_
    refine x_i2s dx_L_law_359 ?_
    refine x_lcmpE dx_L_law_360 ?_
    refine x_if_eq (tgt := 366) dx_L_law_361 (by decide) Rg_0 (fun _ => ?_) (fun q => absurd rfl q)
    refine x_goto (tgt := 965) dx_L_law_366 (by decide) ?_
    exact x_lv (lvL b bo adT adM i) rfl fin
theorem w_count {κ : Kx} {b L bo k n : Nat} {xs : Nat → Int32} {adT adM : Nat → Nat} {i : Int} {τ σ : S0} {f : Int → Int} (hh : LH κ b L xs i k n) (h : REL τ σ) (kk : LK κ b bo adT adM i k n) : X κ room_1 rc_L cd_L_law 8 (WD κ.2.2.1.2.2 adT adM bo (τ, f) σ) k n 369 (lvL b bo adT adM i) [] := by
  obtain ⟨Z, N9, hX, i0, i4, hk, hn⟩ := hh
  refine x_aload_n dx_L_law_369 rfl rfl ?_
  refine x_aload_n dx_L_law_370 rfl rfl ?_
  refine x_iload dx_L_law_371 rfl ?_
  refine x_iconst dx_L_law_373 ?_
  refine x_iadd dx_L_law_374 ?_
  refine x_sld hX (by omega) (by omega) dx_L_law_375 ?_
  refine x_aload_n dx_L_law_376 rfl rfl ?_
  refine x_sw (c_L_count (wA := wg 16 LM κ.2.2.1.2.2 adM σ) (e1 := σ.2.1 5) (e2 := σ.2.1 6) h.1 (sx_rg xs (i + 1))) sw_L_91 Z N9 ⟨rfl, rfl, by decide, by decide⟩ ⟨by show k + 1 ≤ 601024; omega, by show n + 6 ≤ 7293034; omega⟩ rfl (Nat.le_of_ble_eq_true rfl) dx_L_law_377 (fun k9 u hc => ?_)
  refine x_istore dx_L_law_380 (by decide) ?_
  refine x_aload_n dx_L_law_382 rfl rfl ?_
  refine x_aload_n dx_L_law_383 rfl rfl ?_
  refine x_iload dx_L_law_384 rfl ?_
  refine x_iconst dx_L_law_386 ?_
  refine x_iadd dx_L_law_387 ?_
  refine x_sld hX (by omega) (by omega) dx_L_law_388 ?_
  refine x_w wd_wr ?_
  refine x_cvi1 (fr_ci [] _ (c_M_count h (sx_rg xs (i + 1)))) cf_L_93 ⟨rfl, rfl, by decide, by decide⟩ ⟨by show k + 1 ≤ 601024; omega, by show n + 6 ≤ 7293034; omega⟩ wr_at rfl rfl (Nat.le_of_ble_eq_true rfl) dx_L_law_389 (fun z9 σ' hm => ?_)
  refine x_istore dx_L_law_392 (by decide) ?_
  refine x_aload_n dx_L_law_394 rfl rfl ?_
  refine x_cvi0 (fr_ci [] _ c_M_thrown) cf_L_72 ⟨rfl, rfl, by decide, by decide⟩ ⟨by show k + 1 ≤ 601024; omega, by show n + 6 ≤ 7293034; omega⟩ (wr_at (u := u)) rfl rfl (Nat.le_of_ble_eq_true rfl) dx_L_law_395 (fun t9 σ2 ht => ?_)
  obtain ⟨ht, rfl⟩ := ht
  obtain ⟨hR, he, hv⟩ := lq_look hc hm
  have rk : Rg k9 := by rw [← he]; exact hR.2.1.1 0
  have et : t9 = k9 := ht.symm.trans he
  refine x_w (w' := WD κ.2.2.1.2.2 adT adM bo u σ') rfl ?_
  refine x_iload dx_L_law_398 rfl ?_
  refine x_icmp_eq (tgt := 405) dx_L_law_400 (by decide) (by rw [et]; exact rk) rk (fun _ => ?_) (fun q => absurd et q)
  refine x_iload dx_L_law_405 rfl ?_
  have fin : X κ room_1 rc_L cd_L_law 8 (WD κ.2.2.1.2.2 adT adM bo u σ') (k + 1) (n + 6) 965 (lvL b bo adT adM i) [] := x_widen (by omega) (by omega) (kk u σ' hR)
  refine x_if_ne (tgt := 422) dx_L_law_407 (by decide) rk (fun _ => ?_) (fun k0 => ?_)
  · refine x_goto (tgt := 965) dx_L_law_422 (by decide) ?_
    exact x_lv (lvL b bo adT adM i) rfl fin
  · refine x_aload_n dx_L_law_410 rfl rfl ?_
    refine x_iconst dx_L_law_411 ?_
    refine x_laldO dx_L_law_412 ?_
    have ev : u.2 0 = sI z9 := hv k0
    rw [ev]
    refine x_iload dx_L_law_413 rfl ?_
    refine x_i2s dx_L_law_415 ?_
    refine x_lcmpE dx_L_law_416 ?_
    refine x_if_eq (tgt := 422) dx_L_law_417 (by decide) Rg_0 (fun _ => ?_) (fun q => absurd rfl q)
    refine x_goto (tgt := 965) dx_L_law_422 (by decide) ?_
    exact x_lv (lvL b bo adT adM i) rfl fin
theorem w_same {κ : Kx} {b L bo k n : Nat} {xs : Nat → Int32} {adT adM : Nat → Nat} {i : Int} {τ σ : S0} {f : Int → Int} (hh : LH κ b L xs i k n) (h : REL τ σ) (kk : LK κ b bo adT adM i k n) : X κ room_1 rc_L cd_L_law 8 (WD κ.2.2.1.2.2 adT adM bo (τ, f) σ) k n 425 (lvL b bo adT adM i) [] := by
  obtain ⟨Z, N9, hX, i0, i4, hk, hn⟩ := hh
  refine x_aload_n dx_L_law_425 rfl rfl ?_
  refine x_aload_n dx_L_law_426 rfl rfl ?_
  refine x_iload dx_L_law_427 rfl ?_
  refine x_iconst dx_L_law_429 ?_
  refine x_iadd dx_L_law_430 ?_
  refine x_sld hX (by omega) (by omega) dx_L_law_431 ?_
  refine x_aload_n dx_L_law_432 rfl rfl ?_
  refine x_iload dx_L_law_433 rfl ?_
  refine x_iconst dx_L_law_435 ?_
  refine x_iadd dx_L_law_436 ?_
  refine x_sld hX (by omega) (by omega) dx_L_law_437 ?_
  refine x_aload_n dx_L_law_438 rfl rfl ?_
  refine x_sw (c_L_same (wA := wg 16 LM κ.2.2.1.2.2 adM σ) (e1 := σ.2.1 5) (e2 := σ.2.1 6) h.1 (sx_rg xs (i + 1)) (sx_rg xs (i + 2))) sw_L_94 Z N9 ⟨rfl, rfl, by decide, by decide⟩ ⟨by show k + 2 ≤ 601024; omega, by show n + 12 ≤ 7293034; omega⟩ rfl (Nat.le_of_ble_eq_true rfl) dx_L_law_439 (fun k9 u hc => ?_)
  refine x_istore dx_L_law_442 (by decide) ?_
  refine x_aload_n dx_L_law_444 rfl rfl ?_
  refine x_aload_n dx_L_law_445 rfl rfl ?_
  refine x_iload dx_L_law_446 rfl ?_
  refine x_iconst dx_L_law_448 ?_
  refine x_iadd dx_L_law_449 ?_
  refine x_sld hX (by omega) (by omega) dx_L_law_450 ?_
  refine x_aload_n dx_L_law_451 rfl rfl ?_
  refine x_iload dx_L_law_452 rfl ?_
  refine x_iconst dx_L_law_454 ?_
  refine x_iadd dx_L_law_455 ?_
  refine x_sld hX (by omega) (by omega) dx_L_law_456 ?_
  refine x_w wd_wr ?_
  refine x_cvi2 (fr_ci [] _ (c_M_same h (sx_rg xs (i + 1)) (sx_rg xs (i + 2)))) cf_L_96 ⟨rfl, rfl, by decide, by decide⟩ ⟨by show k + 2 ≤ 601024; omega, by show n + 12 ≤ 7293034; omega⟩ wr_at rfl rfl (Nat.le_of_ble_eq_true rfl) dx_L_law_457 (fun z9 σ' hm => ?_)
  refine x_istore dx_L_law_460 (by decide) ?_
  refine x_aload_n dx_L_law_462 rfl rfl ?_
  refine x_cvi0 (fr_ci [] _ c_M_thrown) cf_L_72 ⟨rfl, rfl, by decide, by decide⟩ ⟨by show k + 2 ≤ 601024; omega, by show n + 12 ≤ 7293034; omega⟩ (wr_at (u := u)) rfl rfl (Nat.le_of_ble_eq_true rfl) dx_L_law_463 (fun t9 σ2 ht => ?_)
  obtain ⟨ht, rfl⟩ := ht
  obtain ⟨⟨hR, he, hv⟩, hz⟩ := lq_same hc hm
  have rk : Rg k9 := by rw [← he]; exact hR.2.1.1 0
  have et : t9 = k9 := ht.symm.trans he
  refine x_w (w' := WD κ.2.2.1.2.2 adT adM bo u σ') rfl ?_
  refine x_iload dx_L_law_466 rfl ?_
  refine x_icmp_eq (tgt := 473) dx_L_law_468 (by decide) (by rw [et]; exact rk) rk (fun _ => ?_) (fun q => absurd et q)
  refine x_iload dx_L_law_473 rfl ?_
  have fin : X κ room_1 rc_L cd_L_law 8 (WD κ.2.2.1.2.2 adT adM bo u σ') (k + 2) (n + 12) 965 (lvL b bo adT adM i) [] := x_widen (by omega) (by omega) (kk u σ' hR)
  refine x_if_ne (tgt := 497) dx_L_law_475 (by decide) rk (fun _ => ?_) (fun k0 => ?_)
  · refine x_goto (tgt := 965) dx_L_law_497 (by decide) ?_
    exact x_lv (lvL b bo adT adM i) rfl fin
  · refine x_aload_n dx_L_law_478 rfl rfl ?_
    refine x_iconst dx_L_law_479 ?_
    refine x_laldO dx_L_law_480 ?_
    have ev : u.2 0 = z9 := hv k0
    rw [ev]
    have rz : Rg z9 := by rcases hz k0 with e | e <;> rw [e] <;> exact ⟨by decide, by decide⟩
    refine x_iload dx_L_law_481 rfl ?_
    refine x_if_eq (tgt := 490) dx_L_law_483 (by decide) rz (fun e => ?_) (fun e => ?_)
    · rw [e]
      refine x_lconst (z := 0) dx_L_law_490 (by decide) ?_
      refine x_lcmpE dx_L_law_491 ?_
      refine x_if_eq (tgt := 497) dx_L_law_492 (by decide) Rg_0 (fun _ => ?_) (fun q => absurd rfl q)
      refine x_goto (tgt := 965) dx_L_law_497 (by decide) ?_
      exact x_lv (lvL b bo adT adM i) rfl fin
    · rw [(hz k0).resolve_left e]
      refine x_lconst (z := 1) dx_L_law_486 (by decide) ?_
      refine x_goto (tgt := 491) dx_L_law_487 (by decide) ?_
      refine x_lcmpE dx_L_law_491 ?_
      refine x_if_eq (tgt := 497) dx_L_law_492 (by decide) Rg_0 (fun _ => ?_) (fun q => absurd rfl q)
      refine x_goto (tgt := 965) dx_L_law_497 (by decide) ?_
      exact x_lv (lvL b bo adT adM i) rfl fin
