/-! a world: N cells at addresses ad; objects, arrays of ints, longs, booleans; a state is three functions -/
def wl (N : Nat) (ad : Nat → Nat) (f : Nat → va_E) : va_W := (List.range N).map (fun i => (ad i, f i))
theorem wl_at (N : Nat) (ad : Nat → Nat) (f : Nat → va_E) (i : Nat) : (wl N ad f)[i]? = if i < N then some (ad i, f i) else none := by
  unfold wl
  rw [List.getElem?_map]
  by_cases h : i < N
  · rw [List.getElem?_range h, if_pos h]; rfl
  · rw [List.getElem?_eq_none (by rw [List.length_range]; omega), if_neg h]; rfl
theorem wl_get {N : Nat} {ad : Nat → Nat} {f : Nat → va_E} {j : Nat} (h : j < N) : (wl N ad f)[j]? = some (ad j, f j) := by
  rw [wl_at, if_pos h]
theorem wl_len (N : Nat) (ad : Nat → Nat) (f : Nat → va_E) : (wl N ad f).length = N := by
  unfold wl; rw [List.length_map, List.length_range]
theorem wl_set (N : Nat) (ad : Nat → Nat) (f : Nat → va_E) (j : Nat) (e : va_E) : (wl N ad f).set j (ad j, e) = wl N ad (va_up f j e) := by
  apply List.ext_getElem?
  intro i
  rw [List.getElem?_set, wl_at, wl_at, wl_len]
  by_cases h : j = i
  · subst h
    by_cases hj : j < N
    · rw [if_pos rfl, if_pos hj, if_pos hj]; simp [va_up]
    · rw [if_pos rfl, if_neg hj, if_neg hj]
  · rw [if_neg h]
    by_cases hj : i < N
    · rw [if_pos hj, if_pos hj]; simp [va_up, Ne.symm h]
    · rw [if_neg hj, if_neg hj]
abbrev S0 : Type := (Nat → Int) × (Nat → Int → Int) × (Nat → Int → Int)
def ui (g : Int → Int) (i v : Int) : Int → Int := fun j => if j = i then v else g j
def uq (I : Nat → Int) (q : Nat) (v : Int) : Nat → Int := fun i => if i = q then v else I i
def stI (σ : S0) (q : Nat) (v : Int) : S0 := (uq σ.1 q v, σ.2.1, σ.2.2)
def stR (σ : S0) (q : Nat) (g : Int → Int) : S0 := (σ.1, fun k => if k = q then g else σ.2.1 k, σ.2.2)
def stM (σ : S0) (q : Nat) (g : Int → Int) : S0 := (σ.1, σ.2.1, fun k => if k = q then g else σ.2.2 k)
def stF (σ : S0) (q : Nat) (i v : Int) : S0 := stR σ q (ui (σ.2.1 q) i v)
def stL (σ : S0) (q : Nat) (i v : Int) : S0 := stM σ q (ui (σ.2.2 q) i v)
def ia (c : ClassId) (n : Nat) (g : Int → Int) : va_E := .inl (c, n, .inl (fun j => zI (g (j : Int))))
def la (c : ClassId) (n : Nat) (g : Int → Int) : va_E := .inl (c, n, .inr (.inl (fun j => zL (g (j : Int)))))
def ga (c : ClassId) (n : Nat) (g : Nat → Nat) : va_E := .inl (c, n, .inr (.inr (.inr (.inr (fun i => if i < n then some (g i) else none)))))
/-- a layout: of each cell its kind (0 int[], 1 long[], 2 boolean[], 3 anything else) and length; the cells of kind 3 -/
abbrev Ly : Type := (Nat → Nat × Nat) × ((Nat → ClassId) → (Nat → Nat) → Nat → (Nat → Int) → va_E)
def cg (Λ : Ly) (ca : Nat → ClassId) (ad : Nat → Nat) (σ : S0) : Nat → va_E := fun k =>
  if (Λ.1 k).1 = 0 then ia (ca 0) (Λ.1 k).2 (σ.2.1 k) else if (Λ.1 k).1 = 1 then la (ca 1) (Λ.1 k).2 (σ.2.2 k) else if (Λ.1 k).1 = 2 then ia (ca 2) (Λ.1 k).2 (σ.2.1 k) else Λ.2 ca ad k σ.1
def wg (N : Nat) (Λ : Ly) (ca : Nat → ClassId) (ad : Nat → Nat) (σ : S0) : va_W := wl N ad (cg Λ ca ad σ)
theorem cg_0 {Λ : Ly} {ca : Nat → ClassId} {ad : Nat → Nat} {σ : S0} {j m : Nat} (h : Λ.1 j = (0, m)) : cg Λ ca ad σ j = ia (ca 0) m (σ.2.1 j) := by
  unfold cg; rw [h]; rfl
theorem cg_1 {Λ : Ly} {ca : Nat → ClassId} {ad : Nat → Nat} {σ : S0} {j m : Nat} (h : Λ.1 j = (1, m)) : cg Λ ca ad σ j = la (ca 1) m (σ.2.2 j) := by
  unfold cg; rw [h]; rfl
theorem cg_2 {Λ : Ly} {ca : Nat → ClassId} {ad : Nat → Nat} {σ : S0} {j m : Nat} (h : Λ.1 j = (2, m)) : cg Λ ca ad σ j = ia (ca 2) m (σ.2.1 j) := by
  unfold cg; rw [h]; rfl
theorem cg_3 {Λ : Ly} {ca : Nat → ClassId} {ad : Nat → Nat} {σ : S0} {j m : Nat} (h : Λ.1 j = (3, m)) : cg Λ ca ad σ j = Λ.2 ca ad j σ.1 := by
  unfold cg; rw [h]; rfl
theorem cg_stR {Λ : Ly} {ca : Nat → ClassId} {ad : Nat → Nat} {σ : S0} {q m : Nat} {g : Int → Int} (h : Λ.1 q = (0, m)) : va_up (cg Λ ca ad σ) q (ia (ca 0) m g) = cg Λ ca ad (stR σ q g) := by
  funext j
  unfold va_up
  by_cases hj : j = q
  · subst hj
    rw [if_pos rfl, cg_0 h]
    simp [stR]
  · rw [if_neg hj]
    have h2 : (stR σ q g).2.1 j = σ.2.1 j := by simp [stR, hj]
    unfold cg
    rw [h2]
    rfl
theorem cg_stM {Λ : Ly} {ca : Nat → ClassId} {ad : Nat → Nat} {σ : S0} {q m : Nat} {g : Int → Int} (h : Λ.1 q = (1, m)) : va_up (cg Λ ca ad σ) q (la (ca 1) m g) = cg Λ ca ad (stM σ q g) := by
  funext j
  unfold va_up
  by_cases hj : j = q
  · subst hj
    rw [if_pos rfl, cg_1 h]
    simp [stM]
  · rw [if_neg hj]
    have h2 : (stM σ q g).2.2 j = σ.2.2 j := by simp [stM, hj]
    unfold cg
    rw [h2]
    rfl
theorem cg_stZ {Λ : Ly} {ca : Nat → ClassId} {ad : Nat → Nat} {σ : S0} {q m : Nat} {g : Int → Int} (h : Λ.1 q = (2, m)) : va_up (cg Λ ca ad σ) q (ia (ca 2) m g) = cg Λ ca ad (stR σ q g) := by
  funext j
  unfold va_up
  by_cases hj : j = q
  · subst hj
    rw [if_pos rfl, cg_2 h]
    simp [stR]
  · rw [if_neg hj]
    have h2 : (stR σ q g).2.1 j = σ.2.1 j := by simp [stR, hj]
    unfold cg
    rw [h2]
    rfl
theorem upd_zI {g : Int → Int} {i v : Int} {m : Nat} (h : (m : Int) = i) : upd (fun x : Nat => zI (g (x : Int))) m (zI v) = fun x : Nat => zI (ui g i v (x : Int)) := by
  funext x
  unfold upd ui
  by_cases hx : x = m
  · rw [if_pos hx, if_pos (by omega)]
  · rw [if_neg hx, if_neg (by omega)]
theorem upd_zL {g : Int → Int} {i v : Int} {m : Nat} (h : (m : Int) = i) : vp_updL (fun x : Nat => zL (g (x : Int))) m (zL v) = fun x : Nat => zL (ui g i v (x : Int)) := by
  funext x
  unfold vp_updL ui
  by_cases hx : x = m
  · rw [if_pos hx, if_pos (by omega)]
  · rw [if_neg hx, if_neg (by omega)]
theorem zI_clI {i : Int} {m : Nat} (h0 : 0 ≤ i) (h1 : i < (m : Int)) (hm : m < 2147483648) : (((zI i).toNatClampNeg : Nat) : Int) = i := by
  rw [zI_cl ⟨by omega, by omega⟩]; omega
/-- fields: which field a getfield reads -/
def FA (own : String) (idx ci q : Nat) : Prop := ∃ (C : String) (T : u_T) (Nf : Nat), wcl[ci]? = some (C, T, Nf) ∧ q < Nf ∧ (∀ w ∈ u_ws C T Nf, w ∈ wB) ∧
  (Cond.fieldLink own idx (T q).1 (T q).2.1 (T q).2.2.1 ∈ wB ∨ ∃ host : String, Cond.fieldLinkNest own idx (T q).1 (T q).2.1 (T q).2.2.1 host ∈ wN)
/-- .. and a putfield writes (a field that isn't final) -/
def FP (own : String) (idx ci q : Nat) (ty : FieldType) : Prop := ∃ (C : String) (T : u_T) (Nf : Nat) (ty0 : Nat → FieldType), wcl[ci]? = some (C, T, Nf) ∧ q < Nf ∧ (∀ w ∈ u_ws C T Nf, w ∈ wB) ∧
  (Cond.fieldLink own idx (T q).1 (T q).2.1 (T q).2.2.1 ∈ wB ∨ ∃ host : String, Cond.fieldLinkNest own idx (T q).1 (T q).2.1 (T q).2.2.1 host ∈ wN) ∧
  (∀ k, k < Nf → parseFieldDescriptor (T k).2.2.1 = some (ty0 k)) ∧ (∀ a, a < Nf → ∀ b, b < Nf → a ≠ b → (T a).2.1 ≠ (T b).2.1) ∧ (T q).2.2.2 = false ∧ parseFieldDescriptor (T q).2.2.1 = some ty
/-- the scalar s of the state is the field q of the object j -/
def IO (Λ : Ly) (j ci q s : Nat) : Prop := Λ.1 j = (3, 0) ∧ ∀ (ca : Nat → ClassId) (ad : Nat → Nat) (I : Nat → Int) (v : Int),
  (∃ fs : List Value, Λ.2 ca ad j I = .inr (ci, fs) ∧ q < fs.length ∧ Λ.2 ca ad j (uq I s v) = .inr (ci, fs.set q (.int (zI v)))) ∧ ∀ j', j' ≠ j → Λ.2 ca ad j' (uq I s v) = Λ.2 ca ad j' I
theorem cg_stI {Λ : Ly} {ca : Nat → ClassId} {ad : Nat → Nat} {σ : S0} {j ci q s : Nat} {v : Int} (h : IO Λ j ci q s) : ∃ fs : List Value, cg Λ ca ad σ j = .inr (ci, fs) ∧ q < fs.length ∧ va_up (cg Λ ca ad σ) j (.inr (ci, fs.set q (.int (zI v)))) = cg Λ ca ad (stI σ s v) := by
  obtain ⟨h1, h2⟩ := h
  obtain ⟨⟨fs, h3, h4, h5⟩, h6⟩ := h2 ca ad σ.1 v
  refine ⟨fs, by rw [cg_3 h1, h3], h4, ?_⟩
  funext i
  unfold va_up
  by_cases hi : i = j
  · subst hi
    rw [if_pos rfl, cg_3 h1]
    exact h5.symm
  · rw [if_neg hi]
    have h7 : Λ.2 ca ad i (stI σ s v).1 = Λ.2 ca ad i σ.1 := h6 i hi
    unfold cg
    rw [h7]
    rfl
section XM
variable {κ : Kx} {R : Room} {own : String} {cc : ByteArray} {nL : Nat} {k n pc : Nat} {lv : List (Nat × Value)} {st : List Value} {N : Nat} {Λ : Ly} {ad : Nat → Nat} {σ : S0}
theorem x_get {idx ci q j : Nat} {fs : List Value} {v : Value} (h : FA own idx ci q) (d : decode cc pc = .ok (.getfield idx, 3)) (hj : j < N) (hf : cg Λ κ.2.2.1.2.2 ad σ j = .inr (ci, fs)) (hv : fs[q]? = some v)
    (kk : X κ R own cc nL (wg N Λ κ.2.2.1.2.2 ad σ) k n (pc + 3) lv (v :: st)) : X κ R own cc nL (wg N Λ κ.2.2.1.2.2 ad σ) k n pc lv (.ref (ad j) :: st) := by
  intro C H locs ls hl hP hD hS
  have he : (wg N Λ κ.2.2.1.2.2 ad σ)[j]? = some (ad j, .inr (ci, fs)) := by rw [wg, wl_get hj, hf]
  obtain ⟨C0, T, Nf, h1, h2, h3, h4⟩ := h
  rcases h4 with h4 | ⟨host, h4⟩
  · exact va_get C.hx C.hb C.ht h3 C.ho C.hK hP j he h1 q h2 (C.ht _ h4) (fun _ h9 => h9) hv d (kk C H locs ls hl hP hD hS)
  · exact va_getN C.hx C.hb C.ht h3 C.ho C.hK hP j he h1 q h2 (va_Nw.use rfl (C.hN _ h4)) (fun _ h9 => h9) hv d (kk C H locs ls hl hP hD hS)
theorem x_put {idx ci q j s : Nat} {ty : FieldType} {v : Int} (h : FP own idx ci q ty) (io : IO Λ j ci q s) (d : decode cc pc = .ok (.putfield idx, 3)) (hj : j < N) (hn : narrow ty (.int (zI v)) = .int (zI v)) (hfit : fits ty (.int (zI v)) = true)
    (kk : X κ R own cc nL (wg N Λ κ.2.2.1.2.2 ad (stI σ s v)) k n (pc + 3) lv st) : X κ R own cc nL (wg N Λ κ.2.2.1.2.2 ad σ) k n pc lv (.int (zI v) :: .ref (ad j) :: st) := by
  intro C H locs ls hl hP hD hS
  obtain ⟨fs, hf, hq, hup⟩ := cg_stI (ca := κ.2.2.1.2.2) (ad := ad) (σ := σ) (v := v) io
  have he : (wg N Λ κ.2.2.1.2.2 ad σ)[j]? = some (ad j, .inr (ci, fs)) := by rw [wg, wl_get hj, hf]
  have hw : (wg N Λ κ.2.2.1.2.2 ad σ).set j (ad j, .inr (ci, fs.set q (.int (zI v)))) = wg N Λ κ.2.2.1.2.2 ad (stI σ s v) := by rw [wg, wl_set, hup, wg]
  obtain ⟨C0, T, Nf, ty0, h1, h2, h3, h4, h5, h6, h7, h8⟩ := h
  rcases h4 with h4 | ⟨host, h4⟩
  · exact va_put C.hx C.hb C.ht h3 ty0 h5 h6 C.ho C.hK hP hD hS j he h1 q h2 (C.ht _ h4) (fun _ h9 => h9) h7 h8 hn hfit hq d (fun H1 locs1 hP1 hD1 hS1 => kk C H1 locs1 ls hl (hw ▸ hP1) (hw ▸ hD1) hS1)
  · exact va_putN C.hx C.hb C.ht h3 ty0 h5 h6 C.ho C.hK hP hD hS j he h1 q h2 (va_Nw.use rfl (C.hN _ h4)) (fun _ h9 => h9) h7 h8 hn hfit hq d (fun H1 locs1 hP1 hD1 hS1 => kk C H1 locs1 ls hl (hw ▸ hP1) (hw ▸ hD1) hS1)
theorem x_iald {j m : Nat} {i : Int} (d : decode cc pc = .ok (.iaload, 1)) (hj : j < N) (hk : Λ.1 j = (0, m)) (h0 : 0 ≤ i) (h1 : i < (m : Int)) (hm : m < 2147483648)
    (kk : X κ R own cc nL (wg N Λ κ.2.2.1.2.2 ad σ) k n (pc + 1) lv (.int (zI (σ.2.1 j i)) :: st)) : X κ R own cc nL (wg N Λ κ.2.2.1.2.2 ad σ) k n pc lv (.int (zI i) :: .ref (ad j) :: st) := by
  intro C H locs ls hl hP hD hS
  have he : (wg N Λ κ.2.2.1.2.2 ad σ)[j]? = some (ad j, .inl (κ.2.2.1.2.2 0, m, .inl (fun x => zI (σ.2.1 j (x : Int))))) := by rw [wg, wl_get hj, cg_0 hk]; rfl
  refine va_iald C.hx C.hb C.hK hP j 0 he rfl (zI_in h0 h1 hm) d ?_
  simp only [zI_clI h0 h1 hm]
  exact kk C H locs ls hl hP hD hS
theorem x_lald {j m : Nat} {i : Int} (d : decode cc pc = .ok (.laload, 1)) (hj : j < N) (hk : Λ.1 j = (1, m)) (h0 : 0 ≤ i) (h1 : i < (m : Int)) (hm : m < 2147483648)
    (kk : X κ R own cc nL (wg N Λ κ.2.2.1.2.2 ad σ) k n (pc + 1) lv (.long (zL (σ.2.2 j i)) :: st)) : X κ R own cc nL (wg N Λ κ.2.2.1.2.2 ad σ) k n pc lv (.int (zI i) :: .ref (ad j) :: st) := by
  intro C H locs ls hl hP hD hS
  have he : (wg N Λ κ.2.2.1.2.2 ad σ)[j]? = some (ad j, .inl (κ.2.2.1.2.2 1, m, .inr (.inl (fun x => zL (σ.2.2 j (x : Int)))))) := by rw [wg, wl_get hj, cg_1 hk]; rfl
  refine va_lald C.hx C.hb C.hK hP j 1 he rfl (zI_in h0 h1 hm) d ?_
  simp only [zI_clI h0 h1 hm]
  exact kk C H locs ls hl hP hD hS
theorem x_zald {j m : Nat} {i : Int} (d : decode cc pc = .ok (.baload, 1)) (hj : j < N) (hk : Λ.1 j = (2, m)) (h0 : 0 ≤ i) (h1 : i < (m : Int)) (hm : m < 2147483648)
    (kk : X κ R own cc nL (wg N Λ κ.2.2.1.2.2 ad σ) k n (pc + 1) lv (.int (zI (σ.2.1 j i)) :: st)) : X κ R own cc nL (wg N Λ κ.2.2.1.2.2 ad σ) k n pc lv (.int (zI i) :: .ref (ad j) :: st) := by
  intro C H locs ls hl hP hD hS
  have he : (wg N Λ κ.2.2.1.2.2 ad σ)[j]? = some (ad j, .inl (κ.2.2.1.2.2 2, m, .inl (fun x => zI (σ.2.1 j (x : Int))))) := by rw [wg, wl_get hj, cg_2 hk]; rfl
  refine va_zald C.hx C.hb C.hK hP j 2 he rfl (zI_in h0 h1 hm) d ?_
  simp only [zI_clI h0 h1 hm]
  exact kk C H locs ls hl hP hD hS
theorem x_iast {j m : Nat} {i v : Int} (d : decode cc pc = .ok (.iastore, 1)) (hj : j < N) (hk : Λ.1 j = (0, m)) (h0 : 0 ≤ i) (h1 : i < (m : Int)) (hm : m < 2147483648)
    (kk : X κ R own cc nL (wg N Λ κ.2.2.1.2.2 ad (stF σ j i v)) k n (pc + 1) lv st) : X κ R own cc nL (wg N Λ κ.2.2.1.2.2 ad σ) k n pc lv (.int (zI v) :: .int (zI i) :: .ref (ad j) :: st) := by
  intro C H locs ls hl hP hD hS
  have he : (wg N Λ κ.2.2.1.2.2 ad σ)[j]? = some (ad j, .inl (κ.2.2.1.2.2 0, m, .inl (fun x => zI (σ.2.1 j (x : Int))))) := by rw [wg, wl_get hj, cg_0 hk]; rfl
  have hw : (wg N Λ κ.2.2.1.2.2 ad σ).set j (ad j, .inl (κ.2.2.1.2.2 0, m, .inl (upd (fun x => zI (σ.2.1 j (x : Int))) (zI i).toNatClampNeg (zI v)))) = wg N Λ κ.2.2.1.2.2 ad (stF σ j i v) := by
    rw [upd_zI (zI_clI h0 h1 hm), wg, wl_set]
    exact congrArg (wl N ad) (cg_stR hk)
  exact va_iast C.hx C.hb C.hK hP hD hS j 0 he rfl (zI_in h0 h1 hm) d (fun H1 locs1 hP1 hD1 hS1 => kk C H1 locs1 ls hl (hw ▸ hP1) (hw ▸ hD1) hS1)
theorem x_last {j m : Nat} {i v : Int} (d : decode cc pc = .ok (.lastore, 1)) (hj : j < N) (hk : Λ.1 j = (1, m)) (h0 : 0 ≤ i) (h1 : i < (m : Int)) (hm : m < 2147483648)
    (kk : X κ R own cc nL (wg N Λ κ.2.2.1.2.2 ad (stL σ j i v)) k n (pc + 1) lv st) : X κ R own cc nL (wg N Λ κ.2.2.1.2.2 ad σ) k n pc lv (.long (zL v) :: .int (zI i) :: .ref (ad j) :: st) := by
  intro C H locs ls hl hP hD hS
  have he : (wg N Λ κ.2.2.1.2.2 ad σ)[j]? = some (ad j, .inl (κ.2.2.1.2.2 1, m, .inr (.inl (fun x => zL (σ.2.2 j (x : Int)))))) := by rw [wg, wl_get hj, cg_1 hk]; rfl
  have hw : (wg N Λ κ.2.2.1.2.2 ad σ).set j (ad j, .inl (κ.2.2.1.2.2 1, m, .inr (.inl (vp_updL (fun x => zL (σ.2.2 j (x : Int))) (zI i).toNatClampNeg (zL v))))) = wg N Λ κ.2.2.1.2.2 ad (stL σ j i v) := by
    rw [upd_zL (zI_clI h0 h1 hm), wg, wl_set]
    exact congrArg (wl N ad) (cg_stM hk)
  exact va_last C.hx C.hb C.hK hP hD hS j 1 he rfl (zI_in h0 h1 hm) d (fun H1 locs1 hP1 hD1 hS1 => kk C H1 locs1 ls hl (hw ▸ hP1) (hw ▸ hD1) hS1)
theorem x_zast {j m : Nat} {i v : Int} (d : decode cc pc = .ok (.bastore, 1)) (hj : j < N) (hk : Λ.1 j = (2, m)) (h0 : 0 ≤ i) (h1 : i < (m : Int)) (hm : m < 2147483648) (hv : vp_nar .boolean (zI v) = zI v)
    (kk : X κ R own cc nL (wg N Λ κ.2.2.1.2.2 ad (stF σ j i v)) k n (pc + 1) lv st) : X κ R own cc nL (wg N Λ κ.2.2.1.2.2 ad σ) k n pc lv (.int (zI v) :: .int (zI i) :: .ref (ad j) :: st) := by
  intro C H locs ls hl hP hD hS
  have he : (wg N Λ κ.2.2.1.2.2 ad σ)[j]? = some (ad j, .inl (κ.2.2.1.2.2 2, m, .inl (fun x => zI (σ.2.1 j (x : Int))))) := by rw [wg, wl_get hj, cg_2 hk]; rfl
  have hw : (wg N Λ κ.2.2.1.2.2 ad σ).set j (ad j, .inl (κ.2.2.1.2.2 2, m, .inl (upd (fun x => zI (σ.2.1 j (x : Int))) (zI i).toNatClampNeg (vp_nar .boolean (zI v))))) = wg N Λ κ.2.2.1.2.2 ad (stF σ j i v) := by
    rw [hv, upd_zI (zI_clI h0 h1 hm), wg, wl_set]
    exact congrArg (wl N ad) (cg_stZ hk)
  exact va_zast C.hx C.hb C.hK hP hD hS j 2 he rfl (zI_in h0 h1 hm) d (fun H1 locs1 hP1 hD1 hS1 => kk C H1 locs1 ls hl (hw ▸ hP1) (hw ▸ hD1) hS1)
/-- a row of a grid: kind 3, an array of references -/
theorem x_aald {j m t0 : Nat} {ty : FieldType} {c : ClassId} {g : Nat → Nat} {i : Int} (d : decode cc pc = .ok (.aaload, 1)) (hj : j < N) (hf : cg Λ κ.2.2.1.2.2 ad σ j = ga c m g) (ht : (wty κ.2.2.1.2.2)[t0]? = some (c, ty)) (hty : ty.isReference = true) (h0 : 0 ≤ i) (h1 : i < (m : Int)) (hm : m < 2147483648)
    (kk : X κ R own cc nL (wg N Λ κ.2.2.1.2.2 ad σ) k n (pc + 1) lv (.ref (g i.toNat) :: st)) : X κ R own cc nL (wg N Λ κ.2.2.1.2.2 ad σ) k n pc lv (.int (zI i) :: .ref (ad j) :: st) := by
  intro C H locs ls hl hP hD hS
  have he : (wg N Λ κ.2.2.1.2.2 ad σ)[j]? = some (ad j, .inl (c, m, .inr (.inr (.inr (.inr (fun x => if x < m then some (g x) else none)))))) := by rw [wg, wl_get hj, hf]; rfl
  have hin := zI_in h0 h1 hm
  have hlt : (zI i).toNatClampNeg < m := Nat.not_le.mp fun q => hin (Or.inr q)
  have e : (zI i).toNatClampNeg = i.toNat := zI_cl ⟨by omega, by omega⟩
  refine W.aald (v := .ref (g i.toNat)) (ty := ty) C.hx C.hb (hP j _ he) ((C.hK.2 t0 _ ht).1 m (fun x => va_rf (if x < m then some (g x) else none))) hty (fun q => by cases q) (by show ¬ (zI i < 0 ∨ (arrV _ _ _).slots.size ≤ _); rw [arrV_size]; exact hin) ?_ rfl rfl d (kk C H locs ls hl hP hD hS)
  show (arrV _ _ _).slots[_]? = _
  rw [arrV_read _ _ hlt]
  dsimp only
  rw [if_pos hlt, e]
  rfl
theorem x_alen {j m t0 : Nat} {x : (Nat → Int32) ⊕ (Nat → Int64) ⊕ (Nat → UInt32) ⊕ (Nat → UInt64) ⊕ (Nat → Option Nat)} {c : ClassId} {ty : FieldType} (d : decode cc pc = .ok (.arraylength, 1)) (hj : j < N) (hf : cg Λ κ.2.2.1.2.2 ad σ j = .inl (c, m, x)) (ht : (wty κ.2.2.1.2.2)[t0]? = some (c, ty))
    (kk : X κ R own cc nL (wg N Λ κ.2.2.1.2.2 ad σ) k n (pc + 1) lv (.int (zI (m : Int)) :: st)) : X κ R own cc nL (wg N Λ κ.2.2.1.2.2 ad σ) k n pc lv (.ref (ad j) :: st) := by
  intro C H locs ls hl hP hD hS
  have he : (wg N Λ κ.2.2.1.2.2 ad σ)[j]? = some (ad j, .inl (c, m, x)) := by rw [wg, wl_get hj, hf]
  exact va_alen C.hx C.hb C.hK hP j t0 he ht (zI_nI m).symm d (kk C H locs ls hl hP hD hS)
/-- what stands behind an array's end doesn't matter -/
def eqA (Λ : Ly) (σ τ : S0) : Prop := σ.1 = τ.1 ∧ (∀ (j : Nat) (i : Int), 0 ≤ i → i < ((Λ.1 j).2 : Int) → σ.2.1 j i = τ.2.1 j i) ∧ (∀ (j : Nat) (i : Int), 0 ≤ i → i < ((Λ.1 j).2 : Int) → σ.2.2 j i = τ.2.2 j i)
theorem arrV_ext {c : ClassId} {m : Nat} {f g : Nat → Value} (h : ∀ j, j < m → f j = g j) : arrV c m f = arrV c m g := by
  unfold arrV
  have e : (fun j : Fin m => f j.val) = fun j : Fin m => g j.val := funext fun j => h j.val j.isLt
  rw [e]
theorem ia_at {D : va_G} {cl : List vw_C} {a : Nat} {c : ClassId} {m : Nat} {f g : Int → Int} {H : Heap} (h : ∀ i : Int, 0 ≤ i → i < (m : Int) → f i = g i) (ha : va_at D cl (a, ia c m f) H) : va_at D cl (a, ia c m g) H := by
  show H[a]? = some (vp_cell c (m, .inl (fun j => zI (g (j : Int)))))
  have e : vp_cell c (m, .inl (fun j => zI (g (j : Int)))) = vp_cell c (m, .inl (fun j => zI (f (j : Int)))) := by
    rw [vp_cell_i, vp_cell_i]
    exact arrV_ext (fun j hj => by rw [h (j : Int) (by omega) (by omega)])
  rw [e]
  exact ha
theorem la_at {D : va_G} {cl : List vw_C} {a : Nat} {c : ClassId} {m : Nat} {f g : Int → Int} {H : Heap} (h : ∀ i : Int, 0 ≤ i → i < (m : Int) → f i = g i) (ha : va_at D cl (a, la c m f) H) : va_at D cl (a, la c m g) H := by
  show H[a]? = some (vp_cell c (m, .inr (.inl (fun j => zL (g (j : Int))))))
  have e : vp_cell c (m, .inr (.inl (fun j => zL (g (j : Int))))) = vp_cell c (m, .inr (.inl (fun j => zL (f (j : Int))))) := by
    rw [vp_cell_l, vp_cell_l]
    exact arrV_ext (fun j hj => by rw [h (j : Int) (by omega) (by omega)])
  rw [e]
  exact ha
theorem wl_D {A : Nat → Prop} {ad : Nat → Nat} {f g : Nat → va_E} (h : va_D A (wl N ad f)) : va_D A (wl N ad g) := by
  obtain ⟨h1, h2⟩ := h
  have key : ∀ (i : Nat) (p : Nat × va_E), (wl N ad g)[i]? = some p → i < N ∧ p.1 = ad i := by
    intro i p hp
    rw [wl_at] at hp
    by_cases hi : i < N
    · rw [if_pos hi] at hp
      exact ⟨hi, by rw [← Option.some.inj hp]⟩
    · rw [if_neg hi] at hp
      cases hp
  refine ⟨fun i j p q hp hq e => ?_, fun k q hq => ?_⟩
  · obtain ⟨i1, i2⟩ := key i p hp
    obtain ⟨j1, j2⟩ := key j q hq
    exact h1 i j _ _ (wl_get i1) (wl_get j1) (by rw [← i2, ← j2, e])
  · obtain ⟨i1, i2⟩ := key k q hq
    rw [i2]
    exact h2 k _ (wl_get i1)
theorem x_ext {τ : S0} (h : eqA Λ σ τ) (kk : X κ R own cc nL (wg N Λ κ.2.2.1.2.2 ad τ) k n pc lv st) : X κ R own cc nL (wg N Λ κ.2.2.1.2.2 ad σ) k n pc lv st := by
  intro C H locs ls hl hP hD hS
  refine kk C H locs ls hl (fun i q hq => ?_) (wl_D hD) hS
  rw [wg, wl_at] at hq
  by_cases hi : i < N
  · rw [if_pos hi] at hq
    have hq := Option.some.inj hq
    subst hq
    have ho := hP i _ (wl_get hi)
    unfold cg at ho ⊢
    by_cases h0 : (Λ.1 i).1 = 0
    · rw [if_pos h0] at ho ⊢
      exact ia_at (h.2.1 i) ho
    · rw [if_neg h0] at ho ⊢
      by_cases h1 : (Λ.1 i).1 = 1
      · rw [if_pos h1] at ho ⊢
        exact la_at (h.2.2 i) ho
      · rw [if_neg h1] at ho ⊢
        by_cases h2 : (Λ.1 i).1 = 2
        · rw [if_pos h2] at ho ⊢
          exact ia_at (h.2.1 i) ho
        · rw [if_neg h2] at ho ⊢
          rw [← h.1]
          exact ho
  · rw [if_neg hi] at hq
    cases hq
end XM
