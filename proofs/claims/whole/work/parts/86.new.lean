/-! making objects and arrays -/
section XNW
variable {κ : Kx} {R : Room} {own : String} {cc : ByteArray} {nL : Nat} {w : va_W} {k n pc : Nat} {lv : List (Nat × Value)} {st : List Value}
theorem ra_one {U : State} {a b : ClassId} {ty : FieldType} (hty : ∀ C, ty ≠ .object C) (h1 : va_RA U a ty) (h2 : va_RA U b ty) : a = b := by
  cases ty with
  | object C => exact absurd rfl (hty C)
  | _ => exact Option.some.inj (h1.symm.trans h2)
theorem k_last {D : va_G} {cl : List vw_C} {tys : List (ClassId × FieldType)} {s : State} {cA : ClassId} {ty : FieldType} (h : va_K D cl (tys ++ [(cA, ty)]) s) : va_RA s cA ty := (h.2 tys.length (cA, ty) (by rw [List.getElem?_append_right (Nat.le_refl _), Nat.sub_self]; rfl)).2
theorem x_newI {N : Nat} (hw : Cond.arrayClass .int ∈ wB) (d : decode cc pc = .ok (.newarray .int, 2)) (hN : N < 2147483648) (hb : N * 4 ≤ 536870912) (hk : k + 1 ≤ R.cells) (hn : n + N ≤ R.slots)
    (kk : ∀ q : Nat, X κ R own cc nL (w ++ [(q, ia (κ.2.2.1.2.2 0) N (fun _ => 0))]) (k + 1) (n + N) (pc + 2) lv (.ref q :: st)) : X κ R own cc nL w k n pc lv (.int (zI (N : Int)) :: st) := by
  intro C H locs ls hl hP hD hS
  refine va_newa (atype := .int) (ty := .int) (a0 := (N, .inl (fun _ => zI 0))) C.hx C.hb (C.ht _ hw) rfl C.hK hP hD hS C.hA (fun cA => by rw [vp_cell_i, zI_0]; rfl) (fun q => (zI_in (z := (N : Int)) (n := N + 1) (by omega) (by omega) (by omega)) (Or.inl q)) (by rw [zI_cl ⟨by omega, by omega⟩]; omega) hb hk hn d (fun q cA H1 hK1 hP1 hD1 hS1 => ?_)
  have e : cA = κ.2.2.1.2.2 0 := ra_one (fun C q => by cases q) (k_last hK1) (C.hK.2 0 _ rfl).2
  subst e
  exact kk q C H1 locs ls hl hP1 hD1 hS1
theorem x_newJ {N : Nat} (hw : Cond.arrayClass .long ∈ wB) (d : decode cc pc = .ok (.newarray .long, 2)) (hN : N < 2147483648) (hb : N * 8 ≤ 536870912) (hk : k + 1 ≤ R.cells) (hn : n + N ≤ R.slots)
    (kk : ∀ q : Nat, X κ R own cc nL (w ++ [(q, la (κ.2.2.1.2.2 1) N (fun _ => 0))]) (k + 1) (n + N) (pc + 2) lv (.ref q :: st)) : X κ R own cc nL w k n pc lv (.int (zI (N : Int)) :: st) := by
  intro C H locs ls hl hP hD hS
  refine va_newa (atype := .long) (ty := .long) (a0 := (N, .inr (.inl (fun _ => zL 0)))) C.hx C.hb (C.ht _ hw) rfl C.hK hP hD hS C.hA (fun cA => by rw [vp_cell_l, zL_0]; rfl) (fun q => (zI_in (z := (N : Int)) (n := N + 1) (by omega) (by omega) (by omega)) (Or.inl q)) (by rw [zI_cl ⟨by omega, by omega⟩]; omega) hb hk hn d (fun q cA H1 hK1 hP1 hD1 hS1 => ?_)
  have e : cA = κ.2.2.1.2.2 1 := ra_one (fun C q => by cases q) (k_last hK1) (C.hK.2 1 _ rfl).2
  subst e
  exact kk q C H1 locs ls hl hP1 hD1 hS1
theorem x_newZ {N : Nat} (hw : Cond.arrayClass .boolean ∈ wB) (d : decode cc pc = .ok (.newarray .boolean, 2)) (hN : N < 2147483648) (hb : N * 1 ≤ 536870912) (hk : k + 1 ≤ R.cells) (hn : n + N ≤ R.slots)
    (kk : ∀ q : Nat, X κ R own cc nL (w ++ [(q, ia (κ.2.2.1.2.2 2) N (fun _ => 0))]) (k + 1) (n + N) (pc + 2) lv (.ref q :: st)) : X κ R own cc nL w k n pc lv (.int (zI (N : Int)) :: st) := by
  intro C H locs ls hl hP hD hS
  refine va_newa (atype := .boolean) (ty := .boolean) (a0 := (N, .inl (fun _ => zI 0))) C.hx C.hb (C.ht _ hw) rfl C.hK hP hD hS C.hA (fun cA => by rw [vp_cell_i, zI_0]; rfl) (fun q => (zI_in (z := (N : Int)) (n := N + 1) (by omega) (by omega) (by omega)) (Or.inl q)) (by rw [zI_cl ⟨by omega, by omega⟩]; omega) hb hk hn d (fun q cA H1 hK1 hP1 hD1 hS1 => ?_)
  have e : cA = κ.2.2.1.2.2 2 := ra_one (fun C q => by cases q) (k_last hK1) (C.hK.2 2 _ rfl).2
  subst e
  exact kk q C H1 locs ls hl hP1 hD1 hS1
/-- a row of worlds' cells -/
def rws (N : Nat) (r : Nat → Nat) (e : va_E) : va_W := (List.range N).map (fun i => (r i, e))
theorem rws_pl (N : Nat) (r : Nat → Nat) (f : Nat → va_E) (e : va_E) : va_pl ([] ++ (List.range N).map r) (vr_up f ((List.range N).map r) e) = rws N r e := by
  unfold va_pl rws
  rw [List.nil_append, List.map_map]
  apply List.map_congr_left
  intro i hi
  show (r i, vr_up f ((List.range N).map r) e (r i)) = (r i, e)
  rw [vr_up_in (List.mem_map.mpr ⟨i, hi, rfl⟩)]
theorem x_mnaI {N K idx : Nat} (ho : AO κ.1.2.2.2.1) (hw : Cond.arrayClass .int ∈ wB) (hl9 : Cond.classLink own idx "[[I" ∈ wB) (d : decode cc pc = .ok (.multianewarray idx 2, 4)) (hN : N < 100000) (hK : K < 100000) (hk : k + (1 + N) ≤ R.cells) (hn : n + (N + N * K) ≤ R.slots)
    (kk : ∀ (q : Nat) (r : Nat → Nat), X κ R own cc nL ((w ++ [(q, ga (κ.2.2.1.2.2 3) N r)]) ++ rws N r (ia (κ.2.2.1.2.2 0) K (fun _ => 0))) (k + 1 + N) (n + N + N * K) (pc + 4) lv (.ref q :: st)) : X κ R own cc nL w k n pc lv (.int (zI (K : Int)) :: .int (zI (N : Int)) :: st) := by
  intro C H locs ls hl hP hD hS
  have e0 : w ++ va_pl [] (fun _ => ia (κ.2.2.1.2.2 0) K (fun _ => 0)) = w := List.append_nil w
  have e1 : ("[" ++ (FieldType.array .int).toString) = "[[I" := by decide
  refine va_mna (X := w) (L := []) (f := fun _ => ia (κ.2.2.1.2.2 0) K (fun _ => 0)) (ty := .int) (cy := κ.2.2.1.2.2 0) (z := (K, .inl (fun _ => zI 0))) C.hx C.hb C.ho (by rw [e1]; exact C.ht _ hl9) (show (Cond.arrayOver (.array .int)).before κ.1.2.2.2.2.2 κ.1.2.2.2.1 = true from arrayOver_alikeB (Vm.Alike.refl _) ho.1) (C.ht _ hw) ((C.hK.2 0 _ rfl).2) C.hK (by rw [e0]; exact hP) (by rw [e0]; exact hD) hS C.hA (fun q => (zI_in (z := (N : Int)) (n := N + 1) (by omega) (by omega) (by omega)) (Or.inl q)) (fun q => (zI_in (z := (K : Int)) (n := K + 1) (by omega) (by omega) (by omega)) (Or.inl q)) (by rw [zI_cl ⟨by omega, by omega⟩]; omega) (by rw [zI_cl ⟨by omega, by omega⟩]; omega) (by omega) (show K * 4 ≤ _ by omega) (by omega) rfl rfl hk hn (fun c => by rw [vp_cell_i, zI_0, ← arrV_new]; rfl) d (fun q r cA H1 h1 h2 hK1 hP1 hD1 hS1 => ?_)
  have e : cA = κ.2.2.1.2.2 3 := ra_one (fun C q => by cases q) (k_last hK1) (C.hK.2 3 _ rfl).2
  subst e
  rw [rws_pl] at hP1 hD1
  exact kk q r C H1 locs ls hl hP1 hD1 hS1
theorem x_mnaJ {N K idx : Nat} (ho : AO κ.1.2.2.2.1) (hw : Cond.arrayClass .long ∈ wB) (hl9 : Cond.classLink own idx "[[J" ∈ wB) (d : decode cc pc = .ok (.multianewarray idx 2, 4)) (hN : N < 100000) (hK : K < 100000) (hk : k + (1 + N) ≤ R.cells) (hn : n + (N + N * K) ≤ R.slots)
    (kk : ∀ (q : Nat) (r : Nat → Nat), X κ R own cc nL ((w ++ [(q, ga (κ.2.2.1.2.2 4) N r)]) ++ rws N r (la (κ.2.2.1.2.2 1) K (fun _ => 0))) (k + 1 + N) (n + N + N * K) (pc + 4) lv (.ref q :: st)) : X κ R own cc nL w k n pc lv (.int (zI (K : Int)) :: .int (zI (N : Int)) :: st) := by
  intro C H locs ls hl hP hD hS
  have e0 : w ++ va_pl [] (fun _ => la (κ.2.2.1.2.2 1) K (fun _ => 0)) = w := List.append_nil w
  have e1 : ("[" ++ (FieldType.array .long).toString) = "[[J" := by decide
  refine va_mna (X := w) (L := []) (f := fun _ => la (κ.2.2.1.2.2 1) K (fun _ => 0)) (ty := .long) (cy := κ.2.2.1.2.2 1) (z := (K, .inr (.inl (fun _ => zL 0)))) C.hx C.hb C.ho (by rw [e1]; exact C.ht _ hl9) (show (Cond.arrayOver (.array .long)).before κ.1.2.2.2.2.2 κ.1.2.2.2.1 = true from arrayOver_alikeB (Vm.Alike.refl _) ho.2) (C.ht _ hw) ((C.hK.2 1 _ rfl).2) C.hK (by rw [e0]; exact hP) (by rw [e0]; exact hD) hS C.hA (fun q => (zI_in (z := (N : Int)) (n := N + 1) (by omega) (by omega) (by omega)) (Or.inl q)) (fun q => (zI_in (z := (K : Int)) (n := K + 1) (by omega) (by omega) (by omega)) (Or.inl q)) (by rw [zI_cl ⟨by omega, by omega⟩]; omega) (by rw [zI_cl ⟨by omega, by omega⟩]; omega) (by omega) (show K * 8 ≤ _ by omega) (by omega) rfl rfl hk hn (fun c => by rw [vp_cell_l, zL_0, ← arrV_new]; rfl) d (fun q r cA H1 h1 h2 hK1 hP1 hD1 hS1 => ?_)
  have e : cA = κ.2.2.1.2.2 4 := ra_one (fun C q => by cases q) (k_last hK1) (C.hK.2 4 _ rfl).2
  subst e
  rw [rws_pl] at hP1 hD1
  exact kk q r C H1 locs ls hl hP1 hD1 hS1
/-- what the tables say of a class whose objects are made -/
def NO (own : String) (idx ci : Nat) (fs : List Value) : Prop := ∃ (C : String) (T : u_T) (Nf : Nat) (ty : Nat → FieldType), wcl[ci]? = some (C, T, Nf) ∧ fs.length = Nf ∧ (∀ x ∈ u_ws C T Nf, x ∈ wB) ∧ (∀ j, j < Nf → parseFieldDescriptor (T j).2.2.1 = some (ty j)) ∧ Cond.classLink own idx C ∈ wB ∧ Cond.instantiable C Nf ∈ wB ∧ Cond.initialized C ∈ wB ∧ (∀ j, j < Nf → defaultValue (ty j) = vp_V fs j)
theorem x_newO {idx ci : Nat} {fs : List Value} (h : NO own idx ci fs) (d : decode cc pc = .ok (.new idx, 3)) (hk : k + 1 ≤ R.cells) (hn : n + fs.length ≤ R.slots)
    (kk : ∀ q : Nat, X κ R own cc nL (w ++ [(q, .inr (ci, fs))]) (k + 1) (n + fs.length) (pc + 3) lv (.ref q :: st)) : X κ R own cc nL w k n pc lv st := by
  intro C H locs ls hl hP hD hS
  obtain ⟨C0, T, Nf, ty, h1, h2, h3, h4, h5, h6, h7, h8⟩ := h
  subst h2
  exact va_new C.hx C.hb C.ht h3 ty h4 C.ho (C.ht _ h5) (C.ht _ h6) (C.ht _ h7) C.hK hP hD hS C.hA h1 h8 hk hn d (fun q H1 hP1 hD1 hS1 => kk q C H1 locs ls hl hP1 hD1 hS1)
/-- a final field, in the constructor -/
def FF (own : String) (idx ci q : Nat) : Prop := ∃ (C : String) (T : u_T) (Nf : Nat) (ty0 : Nat → FieldType) (ty : FieldType), wcl[ci]? = some (C, T, Nf) ∧ q < Nf ∧ (∀ x ∈ u_ws C T Nf, x ∈ wB) ∧ Cond.fieldLink own idx (T q).1 (T q).2.1 (T q).2.2.1 ∈ wB ∧
  (∀ j, j < Nf → parseFieldDescriptor (T j).2.2.1 = some (ty0 j)) ∧ (∀ a, a < Nf → ∀ b, b < Nf → a ≠ b → (T a).2.1 ≠ (T b).2.1) ∧ (T q).2.2.2 = true ∧ (T q).1 = own ∧ parseFieldDescriptor (T q).2.2.1 = some ty ∧ ty.isReference = true ∧ (∀ a : Nat, narrow ty (.ref a) = .ref a ∧ fits ty (.ref a) = true)
theorem x_putF {idx ci q j b a : Nat} {fs : List Value} (h : FF own idx ci q) (hnm : κ.2.1.2.1.name = "<init>") (d : decode cc pc = .ok (.putfield idx, 3)) (he : w[j]? = some (b, .inr (ci, fs))) (hq : q < fs.length)
    (kk : X κ R own cc nL (w.set j (b, .inr (ci, fs.set q (.ref a)))) k n (pc + 3) lv st) : X κ R own cc nL w k n pc lv (.ref a :: .ref b :: st) := by
  intro C H locs ls hl hP hD hS
  obtain ⟨C0, T, Nf, ty0, ty, h1, h2, h3, h4, h5, h6, h7, h8, h9, h10, h11⟩ := h
  exact va_putF C.hx C.hb C.ht h3 ty0 h5 h6 C.ho C.hK hP hD hS j he h1 q h2 (C.ht _ h4) (fun _ z => z) h7 hnm h8 h9 (h11 a).1 (h11 a).2 hq d (fun H1 locs1 hP1 hD1 hS1 => kk C H1 locs1 ls hl hP1 hD1 hS1)
/-- a field that isn't final, of ints -/
theorem x_putN {idx ci q j b : Nat} {fs : List Value} {v : Int} (h : FP own idx ci q .int) (d : decode cc pc = .ok (.putfield idx, 3)) (he : w[j]? = some (b, .inr (ci, fs))) (hq : q < fs.length)
    (kk : X κ R own cc nL (w.set j (b, .inr (ci, fs.set q (.int (zI v))))) k n (pc + 3) lv st) : X κ R own cc nL w k n pc lv (.int (zI v) :: .ref b :: st) := by
  intro C H locs ls hl hP hD hS
  obtain ⟨C0, T, Nf, ty0, h1, h2, h3, h4, h5, h6, h7, h8⟩ := h
  rcases h4 with h4 | ⟨host, h4⟩
  · exact va_put C.hx C.hb C.ht h3 ty0 h5 h6 C.ho C.hK hP hD hS j he h1 q h2 (C.ht _ h4) (fun _ h9 => h9) h7 h8 rfl rfl hq d (fun H1 locs1 hP1 hD1 hS1 => kk C H1 locs1 ls hl hP1 hD1 hS1)
  · exact va_putN C.hx C.hb C.ht h3 ty0 h5 h6 C.ho C.hK hP hD hS j he h1 q h2 (va_Nw.use rfl (C.hN _ h4)) (fun _ h9 => h9) h7 h8 rfl rfl hq d (fun H1 locs1 hP1 hD1 hS1 => kk C H1 locs1 ls hl hP1 hD1 hS1)
/-- a field of any world's object -/
theorem x_getW {idx ci q j b : Nat} {fs : List Value} {v : Value} (h : FA own idx ci q) (d : decode cc pc = .ok (.getfield idx, 3)) (he : w[j]? = some (b, .inr (ci, fs))) (hv : fs[q]? = some v)
    (kk : X κ R own cc nL w k n (pc + 3) lv (v :: st)) : X κ R own cc nL w k n pc lv (.ref b :: st) := by
  intro C H locs ls hl hP hD hS
  obtain ⟨C0, T, Nf, h1, h2, h3, h4⟩ := h
  rcases h4 with h4 | ⟨host, h4⟩
  · exact va_get C.hx C.hb C.ht h3 C.ho C.hK hP j he h1 q h2 (C.ht _ h4) (fun _ h9 => h9) hv d (kk C H locs ls hl hP hD hS)
  · exact va_getN C.hx C.hb C.ht h3 C.ho C.hK hP j he h1 q h2 (va_Nw.use rfl (C.hN _ h4)) (fun _ h9 => h9) hv d (kk C H locs ls hl hP hD hS)
/-- the same cells, laid otherwise -/
theorem x_perm {w' : va_W} (π : Nat → Nat) (hπ : ∀ (i : Nat) (x : Nat × va_E), w'[i]? = some x → w[π i]? = some x) (hi : ∀ i j : Nat, i < w'.length → j < w'.length → π i = π j → i = j) (kk : X κ R own cc nL w' k n pc lv st) : X κ R own cc nL w k n pc lv st := by
  intro C H locs ls hl hP hD hS
  refine kk C H locs ls hl (fun i x hx => hP _ x (hπ i x hx)) ⟨fun i j p q h1 h2 e => ?_, fun i x hx => hD.2 _ x (hπ i x hx)⟩ hS
  exact hi i j (List.getElem?_eq_some_iff.mp h1).1 (List.getElem?_eq_some_iff.mp h2).1 (hD.1 _ _ p q (hπ i p h1) (hπ j q h2) e)
/-- what the tables say of a constructor's call -/
def CN (own : String) (idx : Nat) (y : MethodName) (cw : Cond) (maxL na : Nat) : Prop := (∃ bytes : ByteArray, cw = Cond.code y bytes maxL none) ∧ cw ∈ wB ∧ Cond.methodLink own idx y ∈ wB ∧ Cond.instanceMethod y ∈ wB ∧ Cond.initialized y.cls ∈ wB ∧ y.name = "<init>" ∧
  (y.cls ≠ "java/lang/invoke/MethodHandle" ∧ y.cls ≠ "java/lang/invoke/VarHandle" ∧ (parseMethodDescriptor y.desc).map (fun d => d.parameters.length) = some na)
theorem x_cn {idx maxL na mc ms : Nat} {y : MethodName} {cw : Cond} {rm : Room} (C : Cx κ own cc nL) (h : CN own idx y cw maxL na) (hR : rm.cells = mc ∧ rm.slots = ms ∧ rm.frames + 1 ≤ R.frames ∧ 8 + (maxL + 11) + rm.locals ≤ R.locals) : ∃ bytes : ByteArray, CallB R κ.1.2.2.2.1 κ.1.2.2.2.2.2 own idx y bytes maxL none (cw :: wB) rm mc ms na ∧ y.name = "<init>" ∧ (Cond.instanceMethod y).before κ.1.2.2.2.2.2 κ.1.2.2.2.1 = true := by
  obtain ⟨⟨bytes, h1⟩, h2, h3, h4, h6, h8, h7⟩ := h
  exact ⟨bytes, callB_of na C.ht (wB_all h2) (by rw [h1]) hR.1 hR.2.1 (C.ht _ h6) (C.ht _ h3) h7 ⟨hR.2.2.1, hR.2.2.2⟩, h8, C.ht _ h4⟩
theorem x_preC {H : Heap} {av : List Value} (C : Cx κ own cc nL) (ho : AO κ.1.2.2.2.1) (hP : va_P κ.2.2.1.1 wcl w H) (hD : va_D κ.2.2.1.2.1 w) : PreS κ.1.2.2.2.1 H (va_Pc av (PreC κ.2.2.1.1 κ.2.2.1.2.2 w H.size)) av :=
  ⟨preC_blind _ _ _ _ _, fun U hU hW => ⟨rfl, ((x_pre (av := av) C hP hD).2 U hU hW).2, AO.moved hW.alike ho⟩⟩
theorem x_cc {S : Type} {post : S → Prop} {wf : S → va_W} {y : MethodName} {cw : Cond} {rm : Room} {mc ms idx maxL b : Nat} {As st0 : List Value} (hM : CC κ.1.2.1 y cw rm mc ms κ.2.2.1.1 κ.2.2.1.2.2 (.ref b :: As) w post wf) (ho : AO κ.1.2.2.2.1) (h : CN own idx y cw maxL As.length) (hR : rm.cells = mc ∧ rm.slots = ms ∧ rm.frames + 1 ≤ R.frames ∧ 8 + (maxL + 11) + rm.locals ≤ R.locals) (hkn : k + mc ≤ R.cells ∧ n + ms ≤ R.slots) (hst : st0 = As.reverse ++ .ref b :: st) (hw : (st.map fun v => v.category).sum ≤ 8) (d : decode cc pc = .ok (.invokespecial idx, 3))
    (kk : ∀ u : S, post u → X κ R own cc nL (wf u) (k + mc) (n + ms) (pc + 3) lv st) : X κ R own cc nL w k n pc lv st0 := by
  intro C H locs ls hl hP hD hS
  have hf := x_fr C hD hS
  obtain ⟨bytes, hcw⟩ := x_cn (R := R) C h hR
  refine va_callv (va_runI (As := As) (rest := st) ⟨C.hx, C.hb, C.hm, C.ho, C.ht⟩ (hM H.size) hcw (x_preC C ho hP hD) rfl rfl hl.1 hst (lv_room hw) d hkn) hS (fun q _ h => hf q h) hf (fun u t H1 locs1 ht hvm hpost hB hz1 hk1 hS1 => ?_)
  obtain ⟨hP1, hD1⟩ := hB
  rw [ht] at hP1
  exact kk u hpost C H1 locs1 ls hl hP1 (hD1.weaken (fun _ q _ h => hf q.1 h)) hS1
end XNW
