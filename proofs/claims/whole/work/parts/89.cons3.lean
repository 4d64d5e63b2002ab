theorem ga_eq {c : ClassId} {n : Nat} {g h : Nat → Nat} (e : ∀ i, i < n → g i = h i) : ga c n g = ga c n h := by
  unfold ga
  have e2 : (fun i => if i < n then some (g i) else none) = fun i => if i < n then some (h i) else none := by
    funext i
    by_cases c : i < n
    · rw [if_pos c, if_pos c, e i c]
    · rw [if_neg c, if_neg c]
  rw [e2]
/-- the class's layout, its grids' rows told -/
def LTr (r t : Nat → Nat) : Ly := (kT, fun ca ad k I => if k = 8 then ga (ca 3) 21 r else if k = 20 then ga (ca 4) 40 t else oT ca ad k I)
theorem ltr_eq {r t : Nat → Nat} {ca : Nat → ClassId} {ad : Nat → Nat} {σ : S0} (h1 : ∀ i, i < 21 → r i = ad (21 + i)) (h2 : ∀ i, i < 40 → t i = ad (42 + i)) : wg 82 (LTr r t) ca ad σ = wg 82 LT ca ad σ := by
  unfold wg
  congr 1
  funext k
  show (if (kT k).1 = 0 then _ else if (kT k).1 = 1 then _ else if (kT k).1 = 2 then _ else if k = 8 then ga (ca 3) 21 r else if k = 20 then ga (ca 4) 40 t else oT ca ad k σ.1) = (if (kT k).1 = 0 then _ else if (kT k).1 = 1 then _ else if (kT k).1 = 2 then _ else oT ca ad k σ.1)
  by_cases c : k = 8
  · subst c
    rw [if_pos rfl]
    have e : ga (ca 3) 21 r = oT ca ad 8 σ.1 := ga_eq h1
    rw [e]
    rfl
  · rw [if_neg c]
    by_cases d : k = 20
    · subst d
      rw [if_pos rfl]
      have e : ga (ca 4) 40 t = oT ca ad 20 σ.1 := ga_eq h2
      rw [e]
      rfl
    · rw [if_neg d]
      rfl
theorem x_sub {κ : Kx} {R : Room} {own : String} {cc : ByteArray} {nL : Nat} {w w' : va_W} {k n pc : Nat} {lv : List (Nat × Value)} {st : List Value} (is : List Nat) (hn : va_nd is = true) (hs : is.map (fun i => w[i]?) = w'.map some) (kk : X κ R own cc nL w' k n pc lv st) : X κ R own cc nL w k n pc lv st := by
  intro C H locs ls hl hP hD hS
  refine kk C H locs ls hl (fun j q hq => ?_) (hD.sub is hn hs) hS
  have h1 : (is.map (fun i => w[i]?))[j]? = some (some q) := by rw [hs, List.getElem?_map, hq]; rfl
  rw [List.getElem?_map] at h1
  cases hi : is[j]? with
  | none => rw [hi] at h1; cases h1
  | some i => rw [hi] at h1; exact hP i q (Option.some.inj h1)
theorem amid_nil (wA w : va_W) : amid wA [] w = wA ++ w := by
  unfold amid
  rw [List.append_nil]
/-- the state of a new TermWeaver -/
def sT0 : S0 := stR z0 21 (fun j => j)
set_option maxRecDepth 100000 in
set_option maxHeartbeats 8000000 in
theorem c_T_init {l : Launch} {D : va_G} {ca : Nat → ClassId} {b : Nat} : CC l mn_T_init kw_T_init (rmc 2 81 3165) 81 3165 D ca [.ref b] [(b, .inr (4, [.null, .null, .null, .null, .int (zI 0)]))] (fun ad : Nat → Nat => ad 0 = b) (fun ad => wg 82 LT ca ad sT0) := by
  refine cc_in rc_T cd_T_init 1 rfl rfl (by decide) rfl (Nat.le_of_ble_eq_true rfl) (fun κ h1 h2 h3 hnm ho hret => ?_)
  subst h1; subst h2; subst h3
  refine x_lv [(0, .ref b)] rfl ?_
  refine x_aload_n dx_T_init_0 rfl rfl ?_
  refine x_obj km_T_3 dx_T_init_1 (by decide) (by decide) (by decide) ?_
  refine x_aload_n dx_T_init_4 rfl rfl ?_
  refine x_newO no_T_9 dx_T_init_5 (by decide) (by decide) (fun q5 => ?_)
  refine x_dup dx_T_init_8 rfl ?_
  refine x_cc (As := []) (fr_cc [(b, .inr (4, [.null, .null, .null, .null, .int (zI 0)]))] [] c_N_init) ho cn_T_11 ⟨rfl, rfl, by decide, by decide⟩ ⟨by decide, by decide⟩ rfl (Nat.le_of_ble_eq_true rfl) dx_T_init_9 (fun adN hpN => ?_)
  subst hpN
  refine x_w (w' := ([(b, .inr (4, [.null, .null, .null, .null, .int (zI 0)]))] ++ wg 4 LN9 κ.2.2.1.2.2 adN z0)) (amid_nil _ _) ?_
  refine x_putF (j := 0) ff_T_12 hnm dx_T_init_12 rfl (Nat.le_of_ble_eq_true rfl) ?_
  refine x_w (w' := ([(b, .inr (4, [.ref (adN 0), .null, .null, .null, .int (zI 0)]))] ++ wg 4 LN9 κ.2.2.1.2.2 adN z0)) rfl ?_
  refine x_aload_n dx_T_init_15 rfl rfl ?_
  refine x_newO no_T_16 dx_T_init_16 (by decide) (by decide) (fun q16 => ?_)
  refine x_dup dx_T_init_19 rfl ?_
  refine x_aload_n dx_T_init_20 rfl rfl ?_
  refine x_getW (j := 0) fa_T_12 dx_T_init_21 rfl rfl ?_
  refine x_cc (As := [.ref (adN 0)]) (fr_cc ([(b, .inr (4, [.ref (adN 0), .null, .null, .null, .int (zI 0)]))] ++ wg 4 LN9 κ.2.2.1.2.2 adN z0) [] c_E_init) ho cn_T_18 ⟨rfl, rfl, by decide, by decide⟩ ⟨by decide, by decide⟩ rfl (Nat.le_of_ble_eq_true rfl) dx_T_init_24 (fun pE hpE => ?_)
  obtain ⟨eE, rE⟩ := hpE
  subst eE
  refine x_w (w' := (([(b, .inr (4, [.ref (adN 0), .null, .null, .null, .int (zI 0)]))] ++ wg 4 LN9 κ.2.2.1.2.2 adN z0) ++ wg 25 (LE9 (adN 0) pE.2) κ.2.2.1.2.2 pE.1 sE0)) (amid_nil _ _) ?_
  refine x_putF (j := 0) ff_T_21 hnm dx_T_init_27 rfl (Nat.le_of_ble_eq_true rfl) ?_
  refine x_w (w' := (([(b, .inr (4, [.ref (adN 0), .ref (pE.1 0), .null, .null, .int (zI 0)]))] ++ wg 4 LN9 κ.2.2.1.2.2 adN z0) ++ wg 25 (LE9 (adN 0) pE.2) κ.2.2.1.2.2 pE.1 sE0)) rfl ?_
  refine x_aload_n dx_T_init_30 rfl rfl ?_
  refine x_newO no_T_25 dx_T_init_31 (by decide) (by decide) (fun q31 => ?_)
  refine x_dup dx_T_init_34 rfl ?_
  refine x_aload_n dx_T_init_35 rfl rfl ?_
  refine x_getW (j := 0) fa_T_12 dx_T_init_36 rfl rfl ?_
  refine x_cc (As := [.ref (adN 0)]) (fr_cc (([(b, .inr (4, [.ref (adN 0), .ref (pE.1 0), .null, .null, .int (zI 0)]))] ++ wg 4 LN9 κ.2.2.1.2.2 adN z0) ++ wg 25 (LE9 (adN 0) pE.2) κ.2.2.1.2.2 pE.1 sE0) [] c_V_init) ho cn_T_27 ⟨rfl, rfl, by decide, by decide⟩ ⟨by decide, by decide⟩ rfl (Nat.le_of_ble_eq_true rfl) dx_T_init_39 (fun adV hpV => ?_)
  subst hpV
  refine x_w (w' := ((([(b, .inr (4, [.ref (adN 0), .ref (pE.1 0), .null, .null, .int (zI 0)]))] ++ wg 4 LN9 κ.2.2.1.2.2 adN z0) ++ wg 25 (LE9 (adN 0) pE.2) κ.2.2.1.2.2 pE.1 sE0) ++ wg 9 (LV9 (adN 0)) κ.2.2.1.2.2 adV z0)) (amid_nil _ _) ?_
  refine x_putF (j := 0) ff_T_28 hnm dx_T_init_42 rfl (Nat.le_of_ble_eq_true rfl) ?_
  refine x_w (w' := ((([(b, .inr (4, [.ref (adN 0), .ref (pE.1 0), .ref (adV 0), .null, .int (zI 0)]))] ++ wg 4 LN9 κ.2.2.1.2.2 adN z0) ++ wg 25 (LE9 (adN 0) pE.2) κ.2.2.1.2.2 pE.1 sE0) ++ wg 9 (LV9 (adN 0)) κ.2.2.1.2.2 adV z0)) rfl ?_
  refine x_aload_n dx_T_init_45 rfl rfl ?_
  refine x_newO no_T_32 dx_T_init_46 (by decide) (by decide) (fun q46 => ?_)
  refine x_dup dx_T_init_49 rfl ?_
  refine x_aload_n dx_T_init_50 rfl rfl ?_
  refine x_getW (j := 0) fa_T_28 dx_T_init_51 rfl rfl ?_
  refine x_cc (As := [.ref (adV 0)]) (fr_cc ((([(b, .inr (4, [.ref (adN 0), .ref (pE.1 0), .ref (adV 0), .null, .int (zI 0)]))] ++ wg 4 LN9 κ.2.2.1.2.2 adN z0) ++ wg 25 (LE9 (adN 0) pE.2) κ.2.2.1.2.2 pE.1 sE0) ++ wg 9 (LV9 (adN 0)) κ.2.2.1.2.2 adV z0) [] c_P_init) ho cn_T_34 ⟨rfl, rfl, by decide, by decide⟩ ⟨by decide, by decide⟩ rfl (Nat.le_of_ble_eq_true rfl) dx_T_init_54 (fun pP hpP => ?_)
  obtain ⟨eP, rP⟩ := hpP
  subst eP
  refine x_w (w' := (((([(b, .inr (4, [.ref (adN 0), .ref (pE.1 0), .ref (adV 0), .null, .int (zI 0)]))] ++ wg 4 LN9 κ.2.2.1.2.2 adN z0) ++ wg 25 (LE9 (adN 0) pE.2) κ.2.2.1.2.2 pE.1 sE0) ++ wg 9 (LV9 (adN 0)) κ.2.2.1.2.2 adV z0) ++ wg 43 (LP9 (adV 0) pP.2) κ.2.2.1.2.2 pP.1 z0)) (amid_nil _ _) ?_
  refine x_putF (j := 0) ff_T_37 hnm dx_T_init_57 rfl (Nat.le_of_ble_eq_true rfl) ?_
  refine x_w (w' := (((([(b, .inr (4, [.ref (adN 0), .ref (pE.1 0), .ref (adV 0), .ref (pP.1 0), .int (zI 0)]))] ++ wg 4 LN9 κ.2.2.1.2.2 adN z0) ++ wg 25 (LE9 (adN 0) pE.2) κ.2.2.1.2.2 pE.1 sE0) ++ wg 9 (LV9 (adN 0)) κ.2.2.1.2.2 adV z0) ++ wg 43 (LP9 (adV 0) pP.2) κ.2.2.1.2.2 pP.1 z0)) rfl ?_
  refine x_aload_n dx_T_init_60 rfl rfl ?_
  refine x_iconst dx_T_init_61 ?_
  refine x_putN (j := 0) fp_T_41 dx_T_init_62 rfl (Nat.le_of_ble_eq_true rfl) ?_
  refine x_w (w' := (((([(b, .inr (4, [.ref (adN 0), .ref (pE.1 0), .ref (adV 0), .ref (pP.1 0), .int (zI 0)]))] ++ wg 4 LN9 κ.2.2.1.2.2 adN z0) ++ wg 25 (LE9 (adN 0) pE.2) κ.2.2.1.2.2 pE.1 sE0) ++ wg 9 (LV9 (adN 0)) κ.2.2.1.2.2 adV z0) ++ wg 43 (LP9 (adV 0) pP.2) κ.2.2.1.2.2 pP.1 z0)) rfl ?_
  obtain ⟨ad, had⟩ : ∃ ad : Nat → Nat, ad = fun k => if k < 21 then (match k with | 0 => b | 1 => adN 0 | 2 => pE.1 0 | 3 => adV 0 | 4 => pP.1 0 | 5 => adN 1 | 6 => adN 2 | 7 => adN 3 | 8 => pE.1 1 | 9 => pE.1 23 | 10 => pE.1 24 | 11 => adV 1 | 12 => adV 2 | 13 => adV 3 | 14 => adV 4 | 15 => adV 5 | 16 => adV 6 | 17 => adV 7 | 18 => adV 8 | 19 => pP.1 1 | 20 => pP.1 2 | _ => b) else if k < 42 then pE.1 (k - 21 + 2) else pP.1 (k - 42 + 3) := ⟨_, rfl⟩
  refine x_sub (w' := wg 82 (LTr pE.2 pP.2) κ.2.2.1.2.2 ad (stR z0 21 (idf 40))) [0, 1, 5, 30, 39, 2, 3, 4, 6, 28, 29, 31, 32, 33, 34, 35, 36, 37, 38, 40, 41, 7, 8, 9, 10, 11, 12, 13, 14, 15, 16, 17, 18, 19, 20, 21, 22, 23, 24, 25, 26, 27, 42, 43, 44, 45, 46, 47, 48, 49, 50, 51, 52, 53, 54, 55, 56, 57, 58, 59, 60, 61, 62, 63, 64, 65, 66, 67, 68, 69, 70, 71, 72, 73, 74, 75, 76, 77, 78, 79, 80, 81] (by decide) (by rw [had]; rfl) ?_
  have g1 : ∀ i, i < 21 → pE.2 i = ad (21 + i) := fun i hi => by rw [had]; dsimp only; rw [if_neg (by omega), if_pos (by omega), show 21 + i - 21 + 2 = 2 + i by omega]; exact (rE i hi).symm
  have g2 : ∀ i, i < 40 → pP.2 i = ad (42 + i) := fun i hi => by rw [had]; dsimp only; rw [if_neg (by omega), if_neg (by omega), show 42 + i - 42 + 3 = 3 + i by omega]; exact (rP i hi).symm
  have g0 : ad 0 = b := by rw [had]; rfl
  refine x_w (ltr_eq g1 g2) ?_
  refine x_ext (τ := sT0) ⟨rfl, fun j i i0 i1 => ?_, fun _ _ _ _ => rfl⟩ ?_
  · by_cases c : j = 21
    · subst c
      show (stR z0 21 (idf 40)).2.1 21 i = (stR z0 21 (fun j => j)).2.1 21 i
      rw [stR_at, stR_at]
      have i1 : i < 40 := i1
      exact if_pos ⟨i0, i1⟩
    · show (stR z0 21 (idf 40)).2.1 j i = (stR z0 21 (fun j => j)).2.1 j i
      rw [stR_ne _ _ c, stR_ne _ _ c]
  exact hret ad 65 _ g0 dx_T_init_65
