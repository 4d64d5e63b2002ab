abbrev kw_L_variable : Cond := .codeWith mn_L_variable cd_L_variable 3 (some .int) [(0, 8, 11, 13)]
theorem sw_L_66 : SWF rc_L 66 mn_L_variable kw_L_variable 3 2 := ⟨⟨_, _, _, rfl⟩, kc_L_variable, km_L_66, kt_L_variable, kj_L, by decide +kernel⟩
theorem c_L_variable {l : Launch} {D : va_G} {ca : Nat → ClassId} {ad : Nat → Nat} {τ : S0} {e1 e2 : Int → Int} {wA : va_W} {bo : Nat} {f9 : Int → Int} (hI : INV τ e1 e2) : CHn l mn_L_variable kw_L_variable (rmx 9 2 12) 2 12 D ca [.ref (ad 0), .ref bo] (wo wA bo ca ad (τ, f9)) (Wp1 sI (fun z u => τ.1 0 < 40 ∧ τ.1 0 = z ∧ FRv (mkn τ (-1) (-1) (-1)) u ∧ INV u e1 e2) (fun E u => E = rc_jS ∧ 40 ≤ τ.1 0 ∧ τ = u) rc_jS) (wo wA bo ca ad) := by
  refine cw_in cd_L_variable 3 [(0, 8, 11, 13)] rfl rfl (by decide) (Nat.le_of_ble_eq_true rfl) (fun κ g1 g2 g3 Z N9 htab hret => ?_)
  subst g1; subst g2; subst g3
  refine x_lv [(0, .ref (ad 0)), (1, .ref bo)] rfl ?_
  refine x_aload_n dx_L_variable_0 rfl rfl ?_
  refine x_iconst dx_L_variable_1 ?_
  refine x_aload_n dx_L_variable_2 rfl rfl ?_
  refine x_ti0 (fr_cxi wA [(bo, la (κ.2.2.1.2.2 1) 1 f9)] (c_T_variable hI)) cf_L_7 Z ⟨rfl, rfl, by decide, by decide⟩ ⟨by decide, by decide⟩ (wo_at (u := (τ, f9))) rfl rfl (Nat.le_of_ble_eq_true rfl) dx_L_variable_3 (fun E u hp => ?_) (fun z u hp => ?_)
  · have hE : E = rc_jS := by
      obtain ⟨e, -⟩ := hp
      exact e
    subst hE
    refine x_catch [] ⟨0, 8, 11, 13⟩ [] htab (fun z hz => absurd hz List.not_mem_nil) rfl (by decide) kl_L_13 kq_jS (fun q => ?_)
    refine x_astore_n dx_L_variable_11 rfl (by decide) ?_
    refine x_iconst dx_L_variable_12 ?_
    exact hret _ _ 1 (u, f9) _ _ (by decide) (by decide) (Or.inr ⟨rfl, hp⟩) dx_L_variable_13
  · refine x_i2s dx_L_variable_6 ?_
    refine x_lastO dx_L_variable_7 ?_
    refine x_goto (tgt := 14) dx_L_variable_8 (by decide) ?_
    refine x_iconst dx_L_variable_14 ?_
    exact hret _ _ 0 (u, ui f9 0 (sI z)) _ _ (by decide) (by decide) (Or.inl ⟨rfl, z, hp, ui_at f9 0 _⟩) dx_L_variable_15
abbrev kw_L_term : Cond := .codeWith mn_L_term cd_L_term 6 (some .int) [(0, 12, 15, 19), (0, 12, 19, 13)]
theorem sw_L_75 : SWF rc_L 75 mn_L_term kw_L_term 6 5 := ⟨⟨_, _, _, rfl⟩, kc_L_term, km_L_75, kt_L_term, kj_L, by decide +kernel⟩
theorem c_L_term {l : Launch} {D : va_G} {ca : Nat → ClassId} {ad : Nat → Nat} {τ : S0} {f a b : Int} {e1 e2 : Int → Int} {wA : va_W} {bo : Nat} {f9 : Int → Int} (hI : INV τ e1 e2) (hf : Rg f) (ha : Rg a) (hb : Rg b) : CHn l mn_L_term kw_L_term (rmx 10 4 24) 4 24 D ca [.ref (ad 0), .int (zI f), .int (zI a), .int (zI b), .ref bo] (wo wA bo ca ad (τ, f9)) (Wp2 sI (fun z u => TermOk (τ.1 0) f a b ∧ τ.1 0 < 40 ∧ τ.1 0 = z ∧ FRv (mkn τ (tk f a b) a b) u ∧ INV u e1 e2) (fun E u => (E = rc_jA ∧ ¬ TermOk (τ.1 0) f a b ∧ τ = u) ∨ (E = rc_jS ∧ TermOk (τ.1 0) f a b ∧ 40 ≤ τ.1 0 ∧ τ = u)) rc_jA rc_jS) (wo wA bo ca ad) := by
  refine cw_in cd_L_term 6 [(0, 12, 15, 19), (0, 12, 19, 13)] rfl rfl (by decide) (Nat.le_of_ble_eq_true rfl) (fun κ g1 g2 g3 Z N9 htab hret => ?_)
  subst g1; subst g2; subst g3
  refine x_lv [(0, .ref (ad 0)), (1, .int (zI f)), (2, .int (zI a)), (3, .int (zI b)), (4, .ref bo)] rfl ?_
  refine x_aload dx_L_term_0 rfl ?_
  refine x_iconst dx_L_term_2 ?_
  refine x_aload_n dx_L_term_3 rfl rfl ?_
  refine x_iload_n dx_L_term_4 rfl rfl ?_
  refine x_iload_n dx_L_term_5 rfl rfl ?_
  refine x_iload_n dx_L_term_6 rfl rfl ?_
  refine x_ti3 (fr_cxi wA [(bo, la (κ.2.2.1.2.2 1) 1 f9)] (c_T_term hI hf ha hb)) cf_L_15 Z ⟨rfl, rfl, by decide, by decide⟩ ⟨by decide, by decide⟩ (wo_at (u := (τ, f9))) rfl rfl (Nat.le_of_ble_eq_true rfl) dx_L_term_7 (fun E u hp => ?_) (fun z u hp => ?_)
  · have hE : E = rc_jA ∨ E = rc_jS := by
      rcases hp with ⟨e, -⟩ | ⟨e, -⟩
      all_goals first | exact Or.inl e | exact Or.inr e
    rcases hE with hE | hE <;> subst hE
    · refine x_catch [] ⟨0, 12, 15, 19⟩ [⟨0, 12, 19, 13⟩] htab (fun z hz => absurd hz List.not_mem_nil) rfl (by decide) kl_L_19 kq_jA (fun q => ?_)
      refine x_astore dx_L_term_15 (by decide) ?_
      refine x_iconst dx_L_term_17 ?_
      exact hret _ _ 1 (u, f9) _ _ (by decide) (by decide) (Or.inr (Or.inl ⟨rfl, hp⟩)) dx_L_term_18
    · refine x_catch [⟨0, 12, 15, 19⟩] ⟨0, 12, 19, 13⟩ [] htab (fun z hz => by rw [List.mem_singleton.mp hz]; exact Or.inr ⟨by decide, rc_jA, kl_L_19, N9.1⟩) rfl (by decide) kl_L_13 kq_jS (fun q => ?_)
      refine x_astore dx_L_term_19 (by decide) ?_
      refine x_iconst dx_L_term_21 ?_
      exact hret _ _ 2 (u, f9) _ _ (by decide) (by decide) (Or.inr (Or.inr ⟨rfl, hp⟩)) dx_L_term_22
  · refine x_i2s dx_L_term_10 ?_
    refine x_lastO dx_L_term_11 ?_
    refine x_goto (tgt := 23) dx_L_term_12 (by decide) ?_
    refine x_iconst dx_L_term_23 ?_
    exact hret _ _ 0 (u, ui f9 0 (sI z)) _ _ (by decide) (by decide) (Or.inl ⟨rfl, z, hp, ui_at f9 0 _⟩) dx_L_term_24
abbrev kw_L_unify : Cond := .codeWith mn_L_unify cd_L_unify 5 (some .int) [(0, 10, 13, 19), (0, 10, 17, 13)]
theorem sw_L_79 : SWF rc_L 79 mn_L_unify kw_L_unify 5 4 := ⟨⟨_, _, _, rfl⟩, kc_L_unify, km_L_79, kt_L_unify, kj_L, by decide +kernel⟩
theorem c_L_unify {l : Launch} {D : va_G} {ca : Nat → ClassId} {ad : Nat → Nat} {τ : S0} {s t : Int} {e1 e2 : Int → Int} {wA : va_W} {bo : Nat} {f9 : Int → Int} (hI : INV τ e1 e2) (hs : Rg s) (ht : Rg t) (h1 : e1 (τ.1 2) = s) (h2 : e2 (τ.1 2) = t) : CHn l mn_L_unify kw_L_unify (rmx 9 2 12) 2 12 D ca [.ref (ad 0), .int (zI s), .int (zI t), .ref bo] (wo wA bo ca ad (τ, f9)) (Wp2 sI (fun z u => In (τ.1 0) s ∧ In (τ.1 0) t ∧ τ.1 2 < 20 ∧ SN τ u ∧ u.1 2 = τ.1 2 + 1 ∧ u.1 5 = 0 ∧ INV u e1 e2 ∧ τ.1 4 - u.1 4 = z) (fun E u => (E = rc_jA ∧ ¬ (In (τ.1 0) s ∧ In (τ.1 0) t) ∧ stI τ 5 3 = u) ∨ (E = rc_jS ∧ In (τ.1 0) s ∧ In (τ.1 0) t ∧ 20 ≤ τ.1 2 ∧ stI τ 5 0 = u) ∨ (E = rc_jS ∧ In (τ.1 0) s ∧ In (τ.1 0) t ∧ τ.1 2 < 20 ∧ SN τ u ∧ u.1 2 = τ.1 2 ∧ INV u e1 e2 ∧ ((u.1 5 = 1 ∧ Clash (τ.1 0) (τ.2.1 5) (cl τ e1 e2 (τ.1 2 + 1))) ∨ (u.1 5 = 2 ∧ Loop (τ.1 0) (τ.2.1 5) (τ.2.1 6) (τ.2.1 7) (cl τ e1 e2 (τ.1 2 + 1)))))) rc_jA rc_jS) (wo wA bo ca ad) := by
  refine cw_in cd_L_unify 5 [(0, 10, 13, 19), (0, 10, 17, 13)] rfl rfl (by decide) (Nat.le_of_ble_eq_true rfl) (fun κ g1 g2 g3 Z N9 htab hret => ?_)
  subst g1; subst g2; subst g3
  refine x_lv [(0, .ref (ad 0)), (1, .int (zI s)), (2, .int (zI t)), (3, .ref bo)] rfl ?_
  refine x_aload_n dx_L_unify_0 rfl rfl ?_
  refine x_iconst dx_L_unify_1 ?_
  refine x_aload_n dx_L_unify_2 rfl rfl ?_
  refine x_iload_n dx_L_unify_3 rfl rfl ?_
  refine x_iload_n dx_L_unify_4 rfl rfl ?_
  refine x_ti2 (fr_cxi wA [(bo, la (κ.2.2.1.2.2 1) 1 f9)] (c_T_unify hI hs ht h1 h2)) cf_L_21 Z ⟨rfl, rfl, by decide, by decide⟩ ⟨by decide, by decide⟩ (wo_at (u := (τ, f9))) rfl rfl (Nat.le_of_ble_eq_true rfl) dx_L_unify_5 (fun E u hp => ?_) (fun z u hp => ?_)
  · have hE : E = rc_jA ∨ E = rc_jS := by
      rcases hp with ⟨e, -⟩ | ⟨e, -⟩ | ⟨e, -⟩
      all_goals first | exact Or.inl e | exact Or.inr e
    rcases hE with hE | hE <;> subst hE
    · refine x_catch [] ⟨0, 10, 13, 19⟩ [⟨0, 10, 17, 13⟩] htab (fun z hz => absurd hz List.not_mem_nil) rfl (by decide) kl_L_19 kq_jA (fun q => ?_)
      refine x_astore dx_L_unify_13 (by decide) ?_
      refine x_iconst dx_L_unify_15 ?_
      exact hret _ _ 1 (u, f9) _ _ (by decide) (by decide) (Or.inr (Or.inl ⟨rfl, hp⟩)) dx_L_unify_16
    · refine x_catch [⟨0, 10, 13, 19⟩] ⟨0, 10, 17, 13⟩ [] htab (fun z hz => by rw [List.mem_singleton.mp hz]; exact Or.inr ⟨by decide, rc_jA, kl_L_19, N9.1⟩) rfl (by decide) kl_L_13 kq_jS (fun q => ?_)
      refine x_astore dx_L_unify_17 (by decide) ?_
      refine x_iconst dx_L_unify_19 ?_
      exact hret _ _ 2 (u, f9) _ _ (by decide) (by decide) (Or.inr (Or.inr ⟨rfl, hp⟩)) dx_L_unify_20
  · refine x_i2s dx_L_unify_8 ?_
    refine x_lastO dx_L_unify_9 ?_
    refine x_goto (tgt := 21) dx_L_unify_10 (by decide) ?_
    refine x_iconst dx_L_unify_21 ?_
    exact hret _ _ 0 (u, ui f9 0 (sI z)) _ _ (by decide) (by decide) (Or.inl ⟨rfl, z, hp, ui_at f9 0 _⟩) dx_L_unify_22
abbrev kw_L_undo : Cond := .codeWith mn_L_undo cd_L_undo 4 (some .int) [(0, 9, 12, 19)]
theorem sw_L_87 : SWF rc_L 87 mn_L_undo kw_L_undo 4 3 := ⟨⟨_, _, _, rfl⟩, kc_L_undo, km_L_87, kt_L_undo, kj_L, by decide +kernel⟩
theorem c_L_undo {l : Launch} {D : va_G} {ca : Nat → ClassId} {ad : Nat → Nat} {τ : S0} {n : Int} {e1 e2 : Int → Int} {wA : va_W} {bo : Nat} {f9 : Int → Int} (hI : INV τ e1 e2) (hn : Rg n) : CHn l mn_L_undo kw_L_undo (rmx 9 2 12) 2 12 D ca [.ref (ad 0), .int (zI n), .ref bo] (wo wA bo ca ad (τ, f9)) (Wp1 sI (fun z u => (0 ≤ n ∧ n ≤ τ.1 2) ∧ SN τ u ∧ u.1 2 = τ.1 2 - n ∧ u.1 5 = τ.1 5 ∧ INV u e1 e2 ∧ u.1 2 = z) (fun E u => E = rc_jA ∧ ¬ (0 ≤ n ∧ n ≤ τ.1 2) ∧ τ = u) rc_jA) (wo wA bo ca ad) := by
  refine cw_in cd_L_undo 4 [(0, 9, 12, 19)] rfl rfl (by decide) (Nat.le_of_ble_eq_true rfl) (fun κ g1 g2 g3 Z N9 htab hret => ?_)
  subst g1; subst g2; subst g3
  refine x_lv [(0, .ref (ad 0)), (1, .int (zI n)), (2, .ref bo)] rfl ?_
  refine x_aload_n dx_L_undo_0 rfl rfl ?_
  refine x_iconst dx_L_undo_1 ?_
  refine x_aload_n dx_L_undo_2 rfl rfl ?_
  refine x_iload_n dx_L_undo_3 rfl rfl ?_
  refine x_ti1 (fr_cxi wA [(bo, la (κ.2.2.1.2.2 1) 1 f9)] (c_T_undo hI hn)) cf_L_25 Z ⟨rfl, rfl, by decide, by decide⟩ ⟨by decide, by decide⟩ (wo_at (u := (τ, f9))) rfl rfl (Nat.le_of_ble_eq_true rfl) dx_L_undo_4 (fun E u hp => ?_) (fun z u hp => ?_)
  · have hE : E = rc_jA := by
      obtain ⟨e, -⟩ := hp
      exact e
    subst hE
    refine x_catch [] ⟨0, 9, 12, 19⟩ [] htab (fun z hz => absurd hz List.not_mem_nil) rfl (by decide) kl_L_19 kq_jA (fun q => ?_)
    refine x_astore_n dx_L_undo_12 rfl (by decide) ?_
    refine x_iconst dx_L_undo_13 ?_
    exact hret _ _ 1 (u, f9) _ _ (by decide) (by decide) (Or.inr ⟨rfl, hp⟩) dx_L_undo_14
  · refine x_i2s dx_L_undo_7 ?_
    refine x_lastO dx_L_undo_8 ?_
    refine x_goto (tgt := 15) dx_L_undo_9 (by decide) ?_
    refine x_iconst dx_L_undo_15 ?_
    exact hret _ _ 0 (u, ui f9 0 (sI z)) _ _ (by decide) (by decide) (Or.inl ⟨rfl, z, hp, ui_at f9 0 _⟩) dx_L_undo_16
abbrev kw_L_count : Cond := .codeWith mn_L_count cd_L_count 4 (some .int) [(0, 9, 12, 19)]
theorem sw_L_91 : SWF rc_L 91 mn_L_count kw_L_count 4 3 := ⟨⟨_, _, _, rfl⟩, kc_L_count, km_L_91, kt_L_count, kj_L, by decide +kernel⟩
theorem c_L_count {l : Launch} {D : va_G} {ca : Nat → ClassId} {ad : Nat → Nat} {τ : S0} {w : Int} {e1 e2 : Int → Int} {wA : va_W} {bo : Nat} {f9 : Int → Int} (hI : INV τ e1 e2) (hw : Rg w) : CHn l mn_L_count kw_L_count (rmx 7 1 6) 1 6 D ca [.ref (ad 0), .int (zI w), .ref bo] (wo wA bo ca ad (τ, f9)) (Wp1 sI (fun z u => (w = 0 ∨ w = 1 ∨ w = 2) ∧ (if w = 0 then τ.1 0 else if w = 1 then τ.1 2 else τ.1 4) = z ∧ τ = u) (fun E u => E = rc_jA ∧ ¬ (w = 0 ∨ w = 1 ∨ w = 2) ∧ τ = u) rc_jA) (wo wA bo ca ad) := by
  refine cw_in cd_L_count 4 [(0, 9, 12, 19)] rfl rfl (by decide) (Nat.le_of_ble_eq_true rfl) (fun κ g1 g2 g3 Z N9 htab hret => ?_)
  subst g1; subst g2; subst g3
  refine x_lv [(0, .ref (ad 0)), (1, .int (zI w)), (2, .ref bo)] rfl ?_
  refine x_aload_n dx_L_count_0 rfl rfl ?_
  refine x_iconst dx_L_count_1 ?_
  refine x_aload_n dx_L_count_2 rfl rfl ?_
  refine x_iload_n dx_L_count_3 rfl rfl ?_
  refine x_ti1 (fr_cxi wA [(bo, la (κ.2.2.1.2.2 1) 1 f9)] (c_T_count hI hw)) cf_L_29 Z ⟨rfl, rfl, by decide, by decide⟩ ⟨by decide, by decide⟩ (wo_at (u := (τ, f9))) rfl rfl (Nat.le_of_ble_eq_true rfl) dx_L_count_4 (fun E u hp => ?_) (fun z u hp => ?_)
  · have hE : E = rc_jA := by
      obtain ⟨e, -⟩ := hp
      exact e
    subst hE
    refine x_catch [] ⟨0, 9, 12, 19⟩ [] htab (fun z hz => absurd hz List.not_mem_nil) rfl (by decide) kl_L_19 kq_jA (fun q => ?_)
    refine x_astore_n dx_L_count_12 rfl (by decide) ?_
    refine x_iconst dx_L_count_13 ?_
    exact hret _ _ 1 (u, f9) _ _ (by decide) (by decide) (Or.inr ⟨rfl, hp⟩) dx_L_count_14
  · refine x_i2s dx_L_count_7 ?_
    refine x_lastO dx_L_count_8 ?_
    refine x_goto (tgt := 15) dx_L_count_9 (by decide) ?_
    refine x_iconst dx_L_count_15 ?_
    exact hret _ _ 0 (u, ui f9 0 (sI z)) _ _ (by decide) (by decide) (Or.inl ⟨rfl, z, hp, ui_at f9 0 _⟩) dx_L_count_16
abbrev kw_L_same : Cond := .codeWith mn_L_same cd_L_same 5 (some .int) [(0, 17, 20, 19)]
theorem sw_L_94 : SWF rc_L 94 mn_L_same kw_L_same 5 4 := ⟨⟨_, _, _, rfl⟩, kc_L_same, km_L_94, kt_L_same, kj_L, by decide +kernel⟩
theorem c_L_same {l : Launch} {D : va_G} {ca : Nat → ClassId} {ad : Nat → Nat} {τ : S0} {s t : Int} {e1 e2 : Int → Int} {wA : va_W} {bo : Nat} {f9 : Int → Int} (hI : INV τ e1 e2) (hs : Rg s) (ht : Rg t) : CHn l mn_L_same kw_L_same (rmx 8 2 12) 2 12 D ca [.ref (ad 0), .int (zI s), .int (zI t), .ref bo] (wo wA bo ca ad (τ, f9)) (Wp1 (fun r => r) (fun z u => In (τ.1 0) s ∧ In (τ.1 0) t ∧ bz (τ.2.1 11 s = τ.2.1 11 t) = z ∧ τ = u) (fun E u => E = rc_jA ∧ ¬ (In (τ.1 0) s ∧ In (τ.1 0) t) ∧ τ = u) rc_jA) (wo wA bo ca ad) := by
  refine cw_in cd_L_same 5 [(0, 17, 20, 19)] rfl rfl (by decide) (Nat.le_of_ble_eq_true rfl) (fun κ g1 g2 g3 Z N9 htab hret => ?_)
  subst g1; subst g2; subst g3
  refine x_lv [(0, .ref (ad 0)), (1, .int (zI s)), (2, .int (zI t)), (3, .ref bo)] rfl ?_
  refine x_aload_n dx_L_same_0 rfl rfl ?_
  refine x_iconst dx_L_same_1 ?_
  refine x_aload_n dx_L_same_2 rfl rfl ?_
  refine x_iload_n dx_L_same_3 rfl rfl ?_
  refine x_iload_n dx_L_same_4 rfl rfl ?_
  refine x_ti2 (fr_cxi wA [(bo, la (κ.2.2.1.2.2 1) 1 f9)] (c_T_same hI hs ht)) cf_L_32 Z ⟨rfl, rfl, by decide, by decide⟩ ⟨by decide, by decide⟩ (wo_at (u := (τ, f9))) rfl rfl (Nat.le_of_ble_eq_true rfl) dx_L_same_5 (fun E u hp => ?_) (fun z u hp => ?_)
  · have hE : E = rc_jA := by
      obtain ⟨e, -⟩ := hp
      exact e
    subst hE
    refine x_catch [] ⟨0, 17, 20, 19⟩ [] htab (fun z hz => absurd hz List.not_mem_nil) rfl (by decide) kl_L_19 kq_jA (fun q => ?_)
    refine x_astore dx_L_same_20 (by decide) ?_
    refine x_iconst dx_L_same_22 ?_
    exact hret _ _ 1 (u, f9) _ _ (by decide) (by decide) (Or.inr ⟨rfl, hp⟩) dx_L_same_23
  · have hz : z = 0 ∨ z = 1 := by
      obtain ⟨-, -, e, -⟩ := hp
      rw [← e]; unfold bz; split
      · exact Or.inr rfl
      · exact Or.inl rfl
    refine x_if_eq (tgt := 15) dx_L_same_8 (by decide) (by rcases hz with e | e <;> rw [e] <;> exact ⟨by decide, by decide⟩) (fun h => ?_) (fun h => ?_)
    · refine x_lconst (z := 0) dx_L_same_15 (by decide) ?_
      refine x_lastO dx_L_same_16 ?_
      refine x_goto (tgt := 24) dx_L_same_17 (by decide) ?_
      refine x_iconst dx_L_same_24 ?_
      exact hret _ _ 0 (u, ui f9 0 0) _ _ (by decide) (by decide) (Or.inl ⟨rfl, z, hp, (ui_at f9 0 _).trans h.symm⟩) dx_L_same_25
    · refine x_lconst (z := 1) dx_L_same_11 (by decide) ?_
      refine x_goto (tgt := 16) dx_L_same_12 (by decide) ?_
      refine x_lastO dx_L_same_16 ?_
      refine x_goto (tgt := 24) dx_L_same_17 (by decide) ?_
      refine x_iconst dx_L_same_24 ?_
      exact hret _ _ 0 (u, ui f9 0 1) _ _ (by decide) (by decide) (Or.inl ⟨rfl, z, hp, (ui_at f9 0 _).trans (hz.resolve_left h).symm⟩) dx_L_same_25
abbrev kw_L_leader : Cond := .codeWith mn_L_leader cd_L_leader 4 (some .int) [(0, 9, 12, 19)]
theorem sw_L_97 : SWF rc_L 97 mn_L_leader kw_L_leader 4 3 := ⟨⟨_, _, _, rfl⟩, kc_L_leader, km_L_97, kt_L_leader, kj_L, by decide +kernel⟩
theorem c_L_leader {l : Launch} {D : va_G} {ca : Nat → ClassId} {ad : Nat → Nat} {τ : S0} {s : Int} {e1 e2 : Int → Int} {wA : va_W} {bo : Nat} {f9 : Int → Int} (hI : INV τ e1 e2) (hs : Rg s) : CHn l mn_L_leader kw_L_leader (rmx 8 1 6) 1 6 D ca [.ref (ad 0), .int (zI s), .ref bo] (wo wA bo ca ad (τ, f9)) (Wp1 sI (fun z u => In (τ.1 0) s ∧ τ.2.1 16 (τ.2.1 11 s) = z ∧ τ = u) (fun E u => E = rc_jA ∧ ¬ In (τ.1 0) s ∧ τ = u) rc_jA) (wo wA bo ca ad) := by
  refine cw_in cd_L_leader 4 [(0, 9, 12, 19)] rfl rfl (by decide) (Nat.le_of_ble_eq_true rfl) (fun κ g1 g2 g3 Z N9 htab hret => ?_)
  subst g1; subst g2; subst g3
  refine x_lv [(0, .ref (ad 0)), (1, .int (zI s)), (2, .ref bo)] rfl ?_
  refine x_aload_n dx_L_leader_0 rfl rfl ?_
  refine x_iconst dx_L_leader_1 ?_
  refine x_aload_n dx_L_leader_2 rfl rfl ?_
  refine x_iload_n dx_L_leader_3 rfl rfl ?_
  refine x_ti1 (fr_cxi wA [(bo, la (κ.2.2.1.2.2 1) 1 f9)] (c_T_leader hI hs)) cf_L_36 Z ⟨rfl, rfl, by decide, by decide⟩ ⟨by decide, by decide⟩ (wo_at (u := (τ, f9))) rfl rfl (Nat.le_of_ble_eq_true rfl) dx_L_leader_4 (fun E u hp => ?_) (fun z u hp => ?_)
  · have hE : E = rc_jA := by
      obtain ⟨e, -⟩ := hp
      exact e
    subst hE
    refine x_catch [] ⟨0, 9, 12, 19⟩ [] htab (fun z hz => absurd hz List.not_mem_nil) rfl (by decide) kl_L_19 kq_jA (fun q => ?_)
    refine x_astore_n dx_L_leader_12 rfl (by decide) ?_
    refine x_iconst dx_L_leader_13 ?_
    exact hret _ _ 1 (u, f9) _ _ (by decide) (by decide) (Or.inr ⟨rfl, hp⟩) dx_L_leader_14
  · refine x_i2s dx_L_leader_7 ?_
    refine x_lastO dx_L_leader_8 ?_
    refine x_goto (tgt := 15) dx_L_leader_9 (by decide) ?_
    refine x_iconst dx_L_leader_15 ?_
    exact hret _ _ 0 (u, ui f9 0 (sI z)) _ _ (by decide) (by decide) (Or.inl ⟨rfl, z, hp, ui_at f9 0 _⟩) dx_L_leader_16
abbrev kw_L_size : Cond := .codeWith mn_L_size cd_L_size 4 (some .int) [(0, 8, 11, 19)]
theorem sw_L_100 : SWF rc_L 100 mn_L_size kw_L_size 4 3 := ⟨⟨_, _, _, rfl⟩, kc_L_size, km_L_100, kt_L_size, kj_L, by decide +kernel⟩
theorem c_L_size {l : Launch} {D : va_G} {ca : Nat → ClassId} {ad : Nat → Nat} {τ : S0} {s : Int} {e1 e2 : Int → Int} {wA : va_W} {bo : Nat} {f9 : Int → Int} (hI : INV τ e1 e2) (hs : Rg s) : CHn l mn_L_size kw_L_size (rmx 8 1 6) 1 6 D ca [.ref (ad 0), .int (zI s), .ref bo] (wo wA bo ca ad (τ, f9)) (Wp1 (fun r => r) (fun z u => In (τ.1 0) s ∧ τ.2.2 17 (τ.2.1 11 s) = z ∧ τ = u) (fun E u => E = rc_jA ∧ ¬ In (τ.1 0) s ∧ τ = u) rc_jA) (wo wA bo ca ad) := by
  refine cw_in cd_L_size 4 [(0, 8, 11, 19)] rfl rfl (by decide) (Nat.le_of_ble_eq_true rfl) (fun κ g1 g2 g3 Z N9 htab hret => ?_)
  subst g1; subst g2; subst g3
  refine x_lv [(0, .ref (ad 0)), (1, .int (zI s)), (2, .ref bo)] rfl ?_
  refine x_aload_n dx_L_size_0 rfl rfl ?_
  refine x_iconst dx_L_size_1 ?_
  refine x_aload_n dx_L_size_2 rfl rfl ?_
  refine x_iload_n dx_L_size_3 rfl rfl ?_
  refine x_tl1 (fr_cxl wA [(bo, la (κ.2.2.1.2.2 1) 1 f9)] (c_T_size hI hs)) cf_L_39 Z ⟨rfl, rfl, by decide, by decide⟩ ⟨by decide, by decide⟩ (wo_at (u := (τ, f9))) rfl rfl (Nat.le_of_ble_eq_true rfl) dx_L_size_4 (fun E u hp => ?_) (fun z u hp => ?_)
  · have hE : E = rc_jA := by
      obtain ⟨e, -⟩ := hp
      exact e
    subst hE
    refine x_catch [] ⟨0, 8, 11, 19⟩ [] htab (fun z hz => absurd hz List.not_mem_nil) rfl (by decide) kl_L_19 kq_jA (fun q => ?_)
    refine x_astore_n dx_L_size_11 rfl (by decide) ?_
    refine x_iconst dx_L_size_12 ?_
    exact hret _ _ 1 (u, f9) _ _ (by decide) (by decide) (Or.inr ⟨rfl, hp⟩) dx_L_size_13
  · skip
    refine x_lastO dx_L_size_7 ?_
    refine x_goto (tgt := 14) dx_L_size_8 (by decide) ?_
    refine x_iconst dx_L_size_14 ?_
    exact hret _ _ 0 (u, ui f9 0 z) _ _ (by decide) (by decide) (Or.inl ⟨rfl, z, hp, ui_at f9 0 _⟩) dx_L_size_15
abbrev kw_L_depth : Cond := .codeWith mn_L_depth cd_L_depth 4 (some .int) [(0, 9, 12, 19)]
theorem sw_L_103 : SWF rc_L 103 mn_L_depth kw_L_depth 4 3 := ⟨⟨_, _, _, rfl⟩, kc_L_depth, km_L_103, kt_L_depth, kj_L, by decide +kernel⟩
theorem c_L_depth {l : Launch} {D : va_G} {ca : Nat → ClassId} {ad : Nat → Nat} {τ : S0} {s : Int} {e1 e2 : Int → Int} {wA : va_W} {bo : Nat} {f9 : Int → Int} (hI : INV τ e1 e2) (hs : Rg s) : CHn l mn_L_depth kw_L_depth (rmx 8 1 6) 1 6 D ca [.ref (ad 0), .int (zI s), .ref bo] (wo wA bo ca ad (τ, f9)) (Wp1 sI (fun z u => In (τ.1 0) s ∧ τ.2.1 15 (τ.2.1 11 s) = z ∧ τ = u) (fun E u => E = rc_jA ∧ ¬ In (τ.1 0) s ∧ τ = u) rc_jA) (wo wA bo ca ad) := by
  refine cw_in cd_L_depth 4 [(0, 9, 12, 19)] rfl rfl (by decide) (Nat.le_of_ble_eq_true rfl) (fun κ g1 g2 g3 Z N9 htab hret => ?_)
  subst g1; subst g2; subst g3
  refine x_lv [(0, .ref (ad 0)), (1, .int (zI s)), (2, .ref bo)] rfl ?_
  refine x_aload_n dx_L_depth_0 rfl rfl ?_
  refine x_iconst dx_L_depth_1 ?_
  refine x_aload_n dx_L_depth_2 rfl rfl ?_
  refine x_iload_n dx_L_depth_3 rfl rfl ?_
  refine x_ti1 (fr_cxi wA [(bo, la (κ.2.2.1.2.2 1) 1 f9)] (c_T_depth hI hs)) cf_L_43 Z ⟨rfl, rfl, by decide, by decide⟩ ⟨by decide, by decide⟩ (wo_at (u := (τ, f9))) rfl rfl (Nat.le_of_ble_eq_true rfl) dx_L_depth_4 (fun E u hp => ?_) (fun z u hp => ?_)
  · have hE : E = rc_jA := by
      obtain ⟨e, -⟩ := hp
      exact e
    subst hE
    refine x_catch [] ⟨0, 9, 12, 19⟩ [] htab (fun z hz => absurd hz List.not_mem_nil) rfl (by decide) kl_L_19 kq_jA (fun q => ?_)
    refine x_astore_n dx_L_depth_12 rfl (by decide) ?_
    refine x_iconst dx_L_depth_13 ?_
    exact hret _ _ 1 (u, f9) _ _ (by decide) (by decide) (Or.inr ⟨rfl, hp⟩) dx_L_depth_14
  · refine x_i2s dx_L_depth_7 ?_
    refine x_lastO dx_L_depth_8 ?_
    refine x_goto (tgt := 15) dx_L_depth_9 (by decide) ?_
    refine x_iconst dx_L_depth_15 ?_
    exact hret _ _ 0 (u, ui f9 0 (sI z)) _ _ (by decide) (by decide) (Or.inl ⟨rfl, z, hp, ui_at f9 0 _⟩) dx_L_depth_16
abbrev kw_L_variables : Cond := .codeWith mn_L_variables cd_L_variables 4 (some .int) [(0, 9, 12, 19)]
theorem sw_L_106 : SWF rc_L 106 mn_L_variables kw_L_variables 4 3 := ⟨⟨_, _, _, rfl⟩, kc_L_variables, km_L_106, kt_L_variables, kj_L, by decide +kernel⟩
theorem c_L_variables {l : Launch} {D : va_G} {ca : Nat → ClassId} {ad : Nat → Nat} {τ : S0} {s : Int} {e1 e2 : Int → Int} {wA : va_W} {bo : Nat} {f9 : Int → Int} (hI : INV τ e1 e2) (hs : Rg s) : CHn l mn_L_variables kw_L_variables (rmx 8 1 6) 1 6 D ca [.ref (ad 0), .int (zI s), .ref bo] (wo wA bo ca ad (τ, f9)) (Wp1 sI (fun z u => In (τ.1 0) s ∧ pop (τ.2.2 18 (τ.2.1 11 s)) = z ∧ τ = u) (fun E u => E = rc_jA ∧ ¬ In (τ.1 0) s ∧ τ = u) rc_jA) (wo wA bo ca ad) := by
  refine cw_in cd_L_variables 4 [(0, 9, 12, 19)] rfl rfl (by decide) (Nat.le_of_ble_eq_true rfl) (fun κ g1 g2 g3 Z N9 htab hret => ?_)
  subst g1; subst g2; subst g3
  refine x_lv [(0, .ref (ad 0)), (1, .int (zI s)), (2, .ref bo)] rfl ?_
  refine x_aload_n dx_L_variables_0 rfl rfl ?_
  refine x_iconst dx_L_variables_1 ?_
  refine x_aload_n dx_L_variables_2 rfl rfl ?_
  refine x_iload_n dx_L_variables_3 rfl rfl ?_
  refine x_ti1 (fr_cxi wA [(bo, la (κ.2.2.1.2.2 1) 1 f9)] (c_T_variables hI hs)) cf_L_46 Z ⟨rfl, rfl, by decide, by decide⟩ ⟨by decide, by decide⟩ (wo_at (u := (τ, f9))) rfl rfl (Nat.le_of_ble_eq_true rfl) dx_L_variables_4 (fun E u hp => ?_) (fun z u hp => ?_)
  · have hE : E = rc_jA := by
      obtain ⟨e, -⟩ := hp
      exact e
    subst hE
    refine x_catch [] ⟨0, 9, 12, 19⟩ [] htab (fun z hz => absurd hz List.not_mem_nil) rfl (by decide) kl_L_19 kq_jA (fun q => ?_)
    refine x_astore_n dx_L_variables_12 rfl (by decide) ?_
    refine x_iconst dx_L_variables_13 ?_
    exact hret _ _ 1 (u, f9) _ _ (by decide) (by decide) (Or.inr ⟨rfl, hp⟩) dx_L_variables_14
  · refine x_i2s dx_L_variables_7 ?_
    refine x_lastO dx_L_variables_8 ?_
    refine x_goto (tgt := 15) dx_L_variables_9 (by decide) ?_
    refine x_iconst dx_L_variables_15 ?_
    exact hret _ _ 0 (u, ui f9 0 (sI z)) _ _ (by decide) (by decide) (Or.inl ⟨rfl, z, hp, ui_at f9 0 _⟩) dx_L_variables_16
abbrev kw_L_at : Cond := .codeWith mn_L_at cd_L_at 6 (some .int) [(0, 11, 14, 19), (0, 11, 18, 53)]
theorem sw_L_111 : SWF rc_L 111 mn_L_at kw_L_at 6 4 := ⟨⟨_, _, _, rfl⟩, kc_L_at, km_L_111, kt_L_at, kj_L, by decide +kernel⟩
theorem c_L_at {l : Launch} {D : va_G} {ca : Nat → ClassId} {ad : Nat → Nat} {τ : S0} {s i : Int} {e1 e2 : Int → Int} {wA : va_W} {bo : Nat} {f9 : Int → Int} (hI : INV τ e1 e2) (hs : Rg s) (hi : RgL i) : CHn l mn_L_at kw_L_at (rmx 8 2 12) 2 12 D ca [.ref (ad 0), .int (zI s), .long (zL i), .ref bo] (wo wA bo ca ad (τ, f9)) (Wp2 sI (fun z u => In (τ.1 0) s ∧ (0 ≤ i ∧ i < τ.2.2 17 (τ.2.1 11 s)) ∧ wr τ (τ.2.1 11 s) i = z ∧ τ = u) (fun E u => (E = rc_jA ∧ ¬ In (τ.1 0) s ∧ τ = u) ∨ (E = rc_jX ∧ In (τ.1 0) s ∧ ¬ (0 ≤ i ∧ i < τ.2.2 17 (τ.2.1 11 s)) ∧ τ = u)) rc_jA rc_jX) (wo wA bo ca ad) := by
  refine cw_in cd_L_at 6 [(0, 11, 14, 19), (0, 11, 18, 53)] rfl rfl (by decide) (Nat.le_of_ble_eq_true rfl) (fun κ g1 g2 g3 Z N9 htab hret => ?_)
  subst g1; subst g2; subst g3
  refine x_lv [(0, .ref (ad 0)), (1, .int (zI s)), (2, .long (zL i)), (4, .ref bo)] rfl ?_
  refine x_aload dx_L_at_0 rfl ?_
  refine x_iconst dx_L_at_2 ?_
  refine x_aload_n dx_L_at_3 rfl rfl ?_
  refine x_iload_n dx_L_at_4 rfl rfl ?_
  refine x_lload_n dx_L_at_5 rfl rfl ?_
  refine x_ti2 (fr_cxi wA [(bo, la (κ.2.2.1.2.2 1) 1 f9)] (c_T_at hI hs hi)) cf_L_49 Z ⟨rfl, rfl, by decide, by decide⟩ ⟨by decide, by decide⟩ (wo_at (u := (τ, f9))) rfl rfl (Nat.le_of_ble_eq_true rfl) dx_L_at_6 (fun E u hp => ?_) (fun z u hp => ?_)
  · have hE : E = rc_jA ∨ E = rc_jX := by
      rcases hp with ⟨e, -⟩ | ⟨e, -⟩
      all_goals first | exact Or.inl e | exact Or.inr e
    rcases hE with hE | hE <;> subst hE
    · refine x_catch [] ⟨0, 11, 14, 19⟩ [⟨0, 11, 18, 53⟩] htab (fun z hz => absurd hz List.not_mem_nil) rfl (by decide) kl_L_19 kq_jA (fun q => ?_)
      refine x_astore dx_L_at_14 (by decide) ?_
      refine x_iconst dx_L_at_16 ?_
      exact hret _ _ 1 (u, f9) _ _ (by decide) (by decide) (Or.inr (Or.inl ⟨rfl, hp⟩)) dx_L_at_17
    · refine x_catch [⟨0, 11, 14, 19⟩] ⟨0, 11, 18, 53⟩ [] htab (fun z hz => by rw [List.mem_singleton.mp hz]; exact Or.inr ⟨by decide, rc_jA, kl_L_19, N9.2⟩) rfl (by decide) kl_L_53 kq_jX (fun q => ?_)
      refine x_astore dx_L_at_18 (by decide) ?_
      refine x_iconst dx_L_at_20 ?_
      exact hret _ _ 2 (u, f9) _ _ (by decide) (by decide) (Or.inr (Or.inr ⟨rfl, hp⟩)) dx_L_at_21
  · refine x_i2s dx_L_at_9 ?_
    refine x_lastO dx_L_at_10 ?_
    refine x_goto (tgt := 22) dx_L_at_11 (by decide) ?_
    refine x_iconst dx_L_at_22 ?_
    exact hret _ _ 0 (u, ui f9 0 (sI z)) _ _ (by decide) (by decide) (Or.inl ⟨rfl, z, hp, ui_at f9 0 _⟩) dx_L_at_23
abbrev kw_L_matches : Cond := .codeWith mn_L_matches cd_L_matches 5 (some .int) [(0, 17, 20, 19)]
theorem sw_L_115 : SWF rc_L 115 mn_L_matches kw_L_matches 5 4 := ⟨⟨_, _, _, rfl⟩, kc_L_matches, km_L_115, kt_L_matches, kj_L, by decide +kernel⟩
theorem c_L_matches {l : Launch} {D : va_G} {ca : Nat → ClassId} {ad : Nat → Nat} {τ : S0} {s t : Int} {e1 e2 : Int → Int} {wA : va_W} {bo : Nat} {f9 : Int → Int} (hI : INV τ e1 e2) (hs : Rg s) (ht : Rg t) : CHn l mn_L_matches kw_L_matches (rmx 8 2 12) 2 12 D ca [.ref (ad 0), .int (zI s), .int (zI t), .ref bo] (wo wA bo ca ad (τ, f9)) (Wp1 (fun r => r) (fun z u => In (τ.1 0) s ∧ In (τ.1 0) t ∧ FRp τ u ∧ Ok u ∧ ((1 = z ∧ MatchOK τ (τ.2.1 11 s) (τ.2.1 11 t)) ∨ (0 = z ∧ ¬ MatchOK τ (τ.2.1 11 s) (τ.2.1 11 t)))) (fun E u => E = rc_jA ∧ ¬ (In (τ.1 0) s ∧ In (τ.1 0) t) ∧ τ = u) rc_jA) (wo wA bo ca ad) := by
  refine cw_in cd_L_matches 5 [(0, 17, 20, 19)] rfl rfl (by decide) (Nat.le_of_ble_eq_true rfl) (fun κ g1 g2 g3 Z N9 htab hret => ?_)
  subst g1; subst g2; subst g3
  refine x_lv [(0, .ref (ad 0)), (1, .int (zI s)), (2, .int (zI t)), (3, .ref bo)] rfl ?_
  refine x_aload_n dx_L_matches_0 rfl rfl ?_
  refine x_iconst dx_L_matches_1 ?_
  refine x_aload_n dx_L_matches_2 rfl rfl ?_
  refine x_iload_n dx_L_matches_3 rfl rfl ?_
  refine x_iload_n dx_L_matches_4 rfl rfl ?_
  refine x_ti2 (fr_cxi wA [(bo, la (κ.2.2.1.2.2 1) 1 f9)] (c_T_matches hI hs ht)) cf_L_55 Z ⟨rfl, rfl, by decide, by decide⟩ ⟨by decide, by decide⟩ (wo_at (u := (τ, f9))) rfl rfl (Nat.le_of_ble_eq_true rfl) dx_L_matches_5 (fun E u hp => ?_) (fun z u hp => ?_)
  · have hE : E = rc_jA := by
      obtain ⟨e, -⟩ := hp
      exact e
    subst hE
    refine x_catch [] ⟨0, 17, 20, 19⟩ [] htab (fun z hz => absurd hz List.not_mem_nil) rfl (by decide) kl_L_19 kq_jA (fun q => ?_)
    refine x_astore dx_L_matches_20 (by decide) ?_
    refine x_iconst dx_L_matches_22 ?_
    exact hret _ _ 1 (u, f9) _ _ (by decide) (by decide) (Or.inr ⟨rfl, hp⟩) dx_L_matches_23
  · have hz : z = 0 ∨ z = 1 := by
      obtain ⟨-, -, -, -, ⟨e, -⟩ | ⟨e, -⟩⟩ := hp
      · exact Or.inr e.symm
      · exact Or.inl e.symm
    refine x_if_eq (tgt := 15) dx_L_matches_8 (by decide) (by rcases hz with e | e <;> rw [e] <;> exact ⟨by decide, by decide⟩) (fun h => ?_) (fun h => ?_)
    · refine x_lconst (z := 0) dx_L_matches_15 (by decide) ?_
      refine x_lastO dx_L_matches_16 ?_
      refine x_goto (tgt := 24) dx_L_matches_17 (by decide) ?_
      refine x_iconst dx_L_matches_24 ?_
      exact hret _ _ 0 (u, ui f9 0 0) _ _ (by decide) (by decide) (Or.inl ⟨rfl, z, hp, (ui_at f9 0 _).trans h.symm⟩) dx_L_matches_25
    · refine x_lconst (z := 1) dx_L_matches_11 (by decide) ?_
      refine x_goto (tgt := 16) dx_L_matches_12 (by decide) ?_
      refine x_lastO dx_L_matches_16 ?_
      refine x_goto (tgt := 24) dx_L_matches_17 (by decide) ?_
      refine x_iconst dx_L_matches_24 ?_
      exact hret _ _ 0 (u, ui f9 0 1) _ _ (by decide) (by decide) (Or.inl ⟨rfl, z, hp, (ui_at f9 0 _).trans (hz.resolve_left h).symm⟩) dx_L_matches_25
abbrev kw_L_common : Cond := .codeWith mn_L_common cd_L_common 5 (some .int) [(0, 9, 12, 19)]
theorem sw_L_118 : SWF rc_L 118 mn_L_common kw_L_common 5 4 := ⟨⟨_, _, _, rfl⟩, kc_L_common, km_L_118, kt_L_common, kj_L, by decide +kernel⟩
theorem c_L_common {l : Launch} {D : va_G} {ca : Nat → ClassId} {ad : Nat → Nat} {τ : S0} {s t : Int} {e1 e2 : Int → Int} {wA : va_W} {bo : Nat} {f9 : Int → Int} (hI : INV τ e1 e2) (hs : Rg s) (ht : Rg t) : CHn l mn_L_common kw_L_common (rmx 8 2 12) 2 12 D ca [.ref (ad 0), .int (zI s), .int (zI t), .ref bo] (wo wA bo ca ad (τ, f9)) (Wp1 (fun r => r) (fun z u => In (τ.1 0) s ∧ In (τ.1 0) t ∧ FRp τ u ∧ Ok u ∧ cm τ (τ.2.1 11 s) (τ.2.1 11 t) = z) (fun E u => E = rc_jA ∧ ¬ (In (τ.1 0) s ∧ In (τ.1 0) t) ∧ τ = u) rc_jA) (wo wA bo ca ad) := by
  refine cw_in cd_L_common 5 [(0, 9, 12, 19)] rfl rfl (by decide) (Nat.le_of_ble_eq_true rfl) (fun κ g1 g2 g3 Z N9 htab hret => ?_)
  subst g1; subst g2; subst g3
  refine x_lv [(0, .ref (ad 0)), (1, .int (zI s)), (2, .int (zI t)), (3, .ref bo)] rfl ?_
  refine x_aload_n dx_L_common_0 rfl rfl ?_
  refine x_iconst dx_L_common_1 ?_
  refine x_aload_n dx_L_common_2 rfl rfl ?_
  refine x_iload_n dx_L_common_3 rfl rfl ?_
  refine x_iload_n dx_L_common_4 rfl rfl ?_
  refine x_tl2 (fr_cxl wA [(bo, la (κ.2.2.1.2.2 1) 1 f9)] (c_T_common hI hs ht)) cf_L_58 Z ⟨rfl, rfl, by decide, by decide⟩ ⟨by decide, by decide⟩ (wo_at (u := (τ, f9))) rfl rfl (Nat.le_of_ble_eq_true rfl) dx_L_common_5 (fun E u hp => ?_) (fun z u hp => ?_)
  · have hE : E = rc_jA := by
      obtain ⟨e, -⟩ := hp
      exact e
    subst hE
    refine x_catch [] ⟨0, 9, 12, 19⟩ [] htab (fun z hz => absurd hz List.not_mem_nil) rfl (by decide) kl_L_19 kq_jA (fun q => ?_)
    refine x_astore dx_L_common_12 (by decide) ?_
    refine x_iconst dx_L_common_14 ?_
    exact hret _ _ 1 (u, f9) _ _ (by decide) (by decide) (Or.inr ⟨rfl, hp⟩) dx_L_common_15
  · skip
    refine x_lastO dx_L_common_8 ?_
    refine x_goto (tgt := 16) dx_L_common_9 (by decide) ?_
    refine x_iconst dx_L_common_16 ?_
    exact hret _ _ 0 (u, ui f9 0 z) _ _ (by decide) (by decide) (Or.inl ⟨rfl, z, hp, ui_at f9 0 _⟩) dx_L_common_17
