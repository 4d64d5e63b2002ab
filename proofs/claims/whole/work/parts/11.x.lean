/-! The machine at a frame: the heap is hidden behind a list of cells, the locals behind a list of values. -/
abbrev Kx : Type := (Program × Launch × Env × State × MethodId × Array Value) × (List Frame × Method × Code) × (va_G × (Nat → Prop) × (Nat → ClassId)) × (State → Prop)
/-- the array classes that the worlds name: int[], long[], boolean[], int[][], long[][] -/
def wty (ca : Nat → ClassId) : List (ClassId × FieldType) := [(ca 0, .int), (ca 1, .long), (ca 2, .boolean), (ca 3, .array .int), (ca 4, .array .long)]
/-- what holds all through a method's body -/
def Cx (κ : Kx) (own : String) (cc : ByteArray) (nL : Nat) : Prop :=
  κ.1.1.tables.exec = Jvm.exec ∧ κ.2.1.2.2.code = cc ∧ κ.2.1.2.2.maxLocals = nL ∧ κ.1.2.2.2.1.vm.findClass own = some κ.1.2.2.2.2.1.cls ∧
  (∀ w ∈ wB, w.before κ.1.2.2.2.2.2 κ.1.2.2.2.1 = true) ∧ va_K κ.2.2.1.1 wcl (wty κ.2.2.1.2.2) κ.1.2.2.2.1 ∧ (∀ w ∈ wN, va_Nw w κ.1.2.2.2.1) ∧
  κ.2.1.2.1.locks = false ∧ (∀ q, κ.1.2.2.2.1.heap.size ≤ q → κ.2.2.1.2.1 q)
theorem Cx.hx {κ : Kx} {own : String} {cc : ByteArray} {nL : Nat} (C : Cx κ own cc nL) : κ.1.1.tables.exec = Jvm.exec := C.1
theorem Cx.hb {κ : Kx} {own : String} {cc : ByteArray} {nL : Nat} (C : Cx κ own cc nL) : κ.2.1.2.2.code = cc := C.2.1
theorem Cx.hm {κ : Kx} {own : String} {cc : ByteArray} {nL : Nat} (C : Cx κ own cc nL) : κ.2.1.2.2.maxLocals = nL := C.2.2.1
theorem Cx.ho {κ : Kx} {own : String} {cc : ByteArray} {nL : Nat} (C : Cx κ own cc nL) : κ.1.2.2.2.1.vm.findClass own = some κ.1.2.2.2.2.1.cls := C.2.2.2.1
theorem Cx.ht {κ : Kx} {own : String} {cc : ByteArray} {nL : Nat} (C : Cx κ own cc nL) : ∀ w ∈ wB, w.before κ.1.2.2.2.2.2 κ.1.2.2.2.1 = true := C.2.2.2.2.1
theorem Cx.hK {κ : Kx} {own : String} {cc : ByteArray} {nL : Nat} (C : Cx κ own cc nL) : va_K κ.2.2.1.1 wcl (wty κ.2.2.1.2.2) κ.1.2.2.2.1 := C.2.2.2.2.2.1
theorem Cx.hN {κ : Kx} {own : String} {cc : ByteArray} {nL : Nat} (C : Cx κ own cc nL) : ∀ w ∈ wN, va_Nw w κ.1.2.2.2.1 := C.2.2.2.2.2.2.1
theorem Cx.hl {κ : Kx} {own : String} {cc : ByteArray} {nL : Nat} (C : Cx κ own cc nL) : κ.2.1.2.1.locks = false := C.2.2.2.2.2.2.2.1
theorem Cx.hA {κ : Kx} {own : String} {cc : ByteArray} {nL : Nat} (C : Cx κ own cc nL) : ∀ q, κ.1.2.2.2.1.heap.size ≤ q → κ.2.2.1.2.1 q := C.2.2.2.2.2.2.2.2
/-- the walk over a heap H -/
abbrev XW (κ : Kx) (R : Room) (H : Heap) (locs : List Loc) (k n : Nat) (g : JFrame) : Prop :=
  W κ.1.1 κ.1.2.1 κ.1.2.2.1 R κ.1.2.2.2.1 κ.1.2.2.2.2.1 κ.1.2.2.2.2.2 κ.2.1.1 κ.2.1.2.1 κ.2.1.2.2 H locs k n κ.2.2.2 g
def X (κ : Kx) (R : Room) (own : String) (cc : ByteArray) (nL : Nat) (w : va_W) (k n pc : Nat) (lv : List (Nat × Value)) (st : List Value) : Prop :=
  Cx κ own cc nL → ∀ (H : Heap) (locs : List Loc) (ls : Array Slot), lv_has ls nL lv → va_P κ.2.2.1.1 wcl w H → va_D κ.2.2.1.2.1 w → va_S κ.2.2.1.2.1 κ.1.2.2.2.1.heap H locs → XW κ R H locs k n (F0 κ.1.2.2.2.2.1 pc ls st)
/-- the locals -/
def lvg : List (Nat × Value) → Nat → Option Value
  | [], _ => none
  | q :: r, i => match Nat.beq q.1 i with
    | true => some q.2
    | false => lvg r i
theorem lvg_mem : ∀ {lv : List (Nat × Value)} {i : Nat} {v : Value}, lvg lv i = some v → (i, v) ∈ lv
  | [], _, _, h => by cases h
  | q :: r, i, v, h => by
    unfold lvg at h
    cases hb : Nat.beq q.1 i with
    | true =>
      rw [hb] at h
      have e : q.1 = i := Nat.eq_of_beq_eq_true hb
      have e2 : q.2 = v := Option.some.inj h
      rw [← e, ← e2]
      exact List.mem_cons_self
    | false =>
      rw [hb] at h
      exact List.mem_cons_of_mem _ (lvg_mem h)
theorem lv_hg {ls : Array Slot} {nL i : Nat} {lv : List (Nat × Value)} {v : Value} (hl : lv_has ls nL lv) (h : lvg lv i = some v) : ls[i]? = some (.val v) := hl.2.2 (i, v) (lvg_mem h)
def lvs (lv : List (Nat × Value)) (i : Nat) (v : Value) : List (Nat × Value) := (i, v) :: lv.filter (fun q => !(q.1 == i) && !(q.1 + 1 == i && q.2.category == 2))
def lvt (lv : List (Nat × Value)) (i : Nat) (v : Value) : List (Nat × Value) := (i, v) :: lv.filter (fun q => !(q.1 == i) && (!(q.1 == i + 1) && !(q.1 + 1 == i && q.2.category == 2)))
section XR
variable {κ : Kx} {R : Room} {own : String} {cc : ByteArray} {nL : Nat} {w : va_W} {k n pc : Nat} {lv : List (Nat × Value)} {st : List Value}
/-- fewer locals -/
theorem x_lv (lv' : List (Nat × Value)) (h : lv'.map (fun q => lvg lv q.1) = lv'.map (fun q => some q.2)) (kk : X κ R own cc nL w k n pc lv' st) : X κ R own cc nL w k n pc lv st := by
  intro C H locs ls hl hP hD hS
  refine kk C H locs ls ⟨hl.1, hl.2.1, fun q hq => ?_⟩ hP hD hS
  obtain ⟨i, hi⟩ := List.getElem?_of_mem hq
  have h1 : (lv'.map (fun q => lvg lv q.1))[i]? = (lv'.map (fun q => some q.2))[i]? := by rw [h]
  rw [List.getElem?_map, List.getElem?_map, hi] at h1
  exact lv_hg hl (Option.some.inj h1)
/-- another list of the same cells -/
theorem x_w {w' : va_W} (h : w = w') (kk : X κ R own cc nL w' k n pc lv st) : X κ R own cc nL w k n pc lv st := h ▸ kk
theorem x_st {st' : List Value} (h : st = st') (kk : X κ R own cc nL w k n pc lv st') : X κ R own cc nL w k n pc lv st := h ▸ kk
theorem x_pc {pc' : Nat} (h : pc = pc') (kk : X κ R own cc nL w k n pc' lv st) : X κ R own cc nL w k n pc lv st := h ▸ kk
/-- anything that falls: the rule of every loop -/
theorem x_loop {α : Type} (P : α → Prop) (I : α → Prop) (μ : α → Nat) (step : ∀ a, I a → (∀ b, I b → μ b < μ a → P b) → P a) (a : α) (h : I a) : P a := by
  have key : ∀ (f : Nat) (a : α), μ a < f → I a → P a := by
    intro f
    induction f with
    | zero => intro a ha; exact absurd ha (Nat.not_lt_zero _)
    | succ f ih => intro a ha hI; exact step a hI (fun b hb hlt => ih b (by omega) hb)
  exact key (μ a + 1) a (Nat.lt_succ_self _) h
theorem x_iconst {z : Int} (d : decode cc pc = .ok (.iconst z, 1)) (kk : X κ R own cc nL w k n (pc + 1) lv (.int (zI z) :: st)) : X κ R own cc nL w k n pc lv st := by
  intro C H locs ls hl hP hD hS
  exact lv_iconst C.hx C.hb d rfl (kk C H locs ls hl hP hD hS)
theorem x_bipush {z : Int} (d : decode cc pc = .ok (.bipush z, 2)) (hv : (Int8.ofInt z).toInt32 = zI z) (kk : X κ R own cc nL w k n (pc + 2) lv (.int (zI z) :: st)) : X κ R own cc nL w k n pc lv st := by
  intro C H locs ls hl hP hD hS
  exact lv_bipush C.hx C.hb d hv (kk C H locs ls hl hP hD hS)
theorem x_sipush {z : Int} (d : decode cc pc = .ok (.sipush z, 3)) (hv : (Int16.ofInt z).toInt32 = zI z) (kk : X κ R own cc nL w k n (pc + 3) lv (.int (zI z) :: st)) : X κ R own cc nL w k n pc lv st := by
  intro C H locs ls hl hP hD hS
  exact lv_sipush C.hx C.hb d hv (kk C H locs ls hl hP hD hS)
theorem x_lconst {q : Fin 2} {z : Int} (d : decode cc pc = .ok (.lconst q, 1)) (hz : Int64.ofNat (q : Nat) = zL z) (kk : X κ R own cc nL w k n (pc + 1) lv (.long (zL z) :: st)) : X κ R own cc nL w k n pc lv st := by
  intro C H locs ls hl hP hD hS
  exact lv_lconst C.hx C.hb d hz (kk C H locs ls hl hP hD hS)
theorem x_ldc2 {i : Nat} {v : Int64} {z : Int} (d : decode cc pc = .ok (.ldc2_w i, 3)) (h : Cond.constantLong own i v ∈ wB) (hz : v = zL z) (kk : X κ R own cc nL w k n (pc + 3) lv (.long (zL z) :: st)) : X κ R own cc nL w k n pc lv st := by
  intro C H locs ls hl hP hD hS
  exact lv_ldc2 C.hx C.hb C.ho (C.ht _ h) d (hz ▸ kk C H locs ls hl hP hD hS)
theorem x_iload_n {q : Fin 4} {i : Nat} {z : Int} (d : decode cc pc = .ok (.iload_n q, 1)) (hi : (q : Nat) = i) (hv : lvg lv i = some (.int (zI z))) (kk : X κ R own cc nL w k n (pc + 1) lv (.int (zI z) :: st)) : X κ R own cc nL w k n pc lv st := by
  intro C H locs ls hl hP hD hS
  exact lv_iload_n C.hx C.hb d hi (lv_hg hl hv) (kk C H locs ls hl hP hD hS)
theorem x_iload {i : Nat} {z : Int} (d : decode cc pc = .ok (.iload i, 2)) (hv : lvg lv i = some (.int (zI z))) (kk : X κ R own cc nL w k n (pc + 2) lv (.int (zI z) :: st)) : X κ R own cc nL w k n pc lv st := by
  intro C H locs ls hl hP hD hS
  exact lv_iload C.hx C.hb d (lv_hg hl hv) (kk C H locs ls hl hP hD hS)
theorem x_lload_n {q : Fin 4} {i : Nat} {z : Int} (d : decode cc pc = .ok (.lload_n q, 1)) (hi : (q : Nat) = i) (hv : lvg lv i = some (.long (zL z))) (kk : X κ R own cc nL w k n (pc + 1) lv (.long (zL z) :: st)) : X κ R own cc nL w k n pc lv st := by
  intro C H locs ls hl hP hD hS
  exact lv_lload_n C.hx C.hb d hi (lv_hg hl hv) (kk C H locs ls hl hP hD hS)
theorem x_lload {i : Nat} {z : Int} (d : decode cc pc = .ok (.lload i, 2)) (hv : lvg lv i = some (.long (zL z))) (kk : X κ R own cc nL w k n (pc + 2) lv (.long (zL z) :: st)) : X κ R own cc nL w k n pc lv st := by
  intro C H locs ls hl hP hD hS
  exact lv_lload C.hx C.hb d (lv_hg hl hv) (kk C H locs ls hl hP hD hS)
theorem x_aload_n {q : Fin 4} {i a : Nat} (d : decode cc pc = .ok (.aload_n q, 1)) (hi : (q : Nat) = i) (hv : lvg lv i = some (.ref a)) (kk : X κ R own cc nL w k n (pc + 1) lv (.ref a :: st)) : X κ R own cc nL w k n pc lv st := by
  intro C H locs ls hl hP hD hS
  exact lv_aload_n C.hx C.hb d hi (lv_hg hl hv) (kk C H locs ls hl hP hD hS)
theorem x_aload {i a : Nat} (d : decode cc pc = .ok (.aload i, 2)) (hv : lvg lv i = some (.ref a)) (kk : X κ R own cc nL w k n (pc + 2) lv (.ref a :: st)) : X κ R own cc nL w k n pc lv st := by
  intro C H locs ls hl hP hD hS
  exact lv_aload C.hx C.hb d (lv_hg hl hv) (kk C H locs ls hl hP hD hS)
theorem x_istore_n {q : Fin 4} {i : Nat} {z : Int} (d : decode cc pc = .ok (.istore_n q, 1)) (hi : (q : Nat) = i) (hn : i < nL) (kk : X κ R own cc nL w k n (pc + 1) (lvs lv i (.int (zI z))) st) : X κ R own cc nL w k n pc lv ((.int (zI z)) :: st) := by
  intro C H locs ls hl hP hD hS
  exact lv_istore_n C.hx C.hb d hi hl hn rfl (fun ls hl => kk C H locs ls hl hP hD hS)
theorem x_istore {i : Nat} {z : Int} (d : decode cc pc = .ok (.istore i, 2)) (hn : i < nL) (kk : X κ R own cc nL w k n (pc + 2) (lvs lv i (.int (zI z))) st) : X κ R own cc nL w k n pc lv ((.int (zI z)) :: st) := by
  intro C H locs ls hl hP hD hS
  exact lv_istore C.hx C.hb d hl hn rfl (fun ls hl => kk C H locs ls hl hP hD hS)
theorem x_astore_n {q : Fin 4} {i : Nat} {z : Nat} (d : decode cc pc = .ok (.astore_n q, 1)) (hi : (q : Nat) = i) (hn : i < nL) (kk : X κ R own cc nL w k n (pc + 1) (lvs lv i (.ref z)) st) : X κ R own cc nL w k n pc lv ((.ref z) :: st) := by
  intro C H locs ls hl hP hD hS
  exact lv_astore_n C.hx C.hb d hi hl hn rfl (fun ls hl => kk C H locs ls hl hP hD hS)
theorem x_astore {i : Nat} {z : Nat} (d : decode cc pc = .ok (.astore i, 2)) (hn : i < nL) (kk : X κ R own cc nL w k n (pc + 2) (lvs lv i (.ref z)) st) : X κ R own cc nL w k n pc lv ((.ref z) :: st) := by
  intro C H locs ls hl hP hD hS
  exact lv_astore C.hx C.hb d hl hn rfl (fun ls hl => kk C H locs ls hl hP hD hS)
theorem x_lstore_n {q : Fin 4} {i : Nat} {z : Int} (d : decode cc pc = .ok (.lstore_n q, 1)) (hi : (q : Nat) = i) (hn : i + 1 < nL) (kk : X κ R own cc nL w k n (pc + 1) (lvt lv i (.long (zL z))) st) : X κ R own cc nL w k n pc lv (.long (zL z) :: st) := by
  intro C H locs ls hl hP hD hS
  exact lv_lstore_n C.hx C.hb d hi hl hn rfl (fun ls hl => kk C H locs ls hl hP hD hS)
theorem x_lstore {i : Nat} {z : Int} (d : decode cc pc = .ok (.lstore i, 2)) (hn : i + 1 < nL) (kk : X κ R own cc nL w k n (pc + 2) (lvt lv i (.long (zL z))) st) : X κ R own cc nL w k n pc lv (.long (zL z) :: st) := by
  intro C H locs ls hl hP hD hS
  exact lv_lstore C.hx C.hb d hl hn rfl (fun ls hl => kk C H locs ls hl hP hD hS)
theorem x_iinc {i : Nat} {z c : Int} (d : decode cc pc = .ok (.iinc i c, 3)) (hv : lvg lv i = some (.int (zI z))) (hn : i < nL) (kk : X κ R own cc nL w k n (pc + 3) (lvs lv i (.int (zI (z + c)))) st) : X κ R own cc nL w k n pc lv st := by
  intro C H locs ls hl hP hD hS
  obtain ⟨j, hj⟩ := List.getElem?_of_mem (lvg_mem hv)
  exact lv_iinc C.hx C.hb d hl hj (zI_add z c).symm hn rfl (fun ls hl => kk C H locs ls hl hP hD hS)
theorem x_iadd {a b : Int} (d : decode cc pc = .ok (.iadd, 1)) (kk : X κ R own cc nL w k n (pc + 1) lv (.int (zI (a + b)) :: st)) : X κ R own cc nL w k n pc lv (.int (zI b) :: .int (zI a) :: st) := by
  intro C H locs ls hl hP hD hS
  refine lv_iadd C.hx C.hb d ?_
  rw [← zI_add]
  exact kk C H locs ls hl hP hD hS
theorem x_isub {a b : Int} (d : decode cc pc = .ok (.isub, 1)) (kk : X κ R own cc nL w k n (pc + 1) lv (.int (zI (a - b)) :: st)) : X κ R own cc nL w k n pc lv (.int (zI b) :: .int (zI a) :: st) := by
  intro C H locs ls hl hP hD hS
  refine lv_isub C.hx C.hb d ?_
  rw [← zI_sub]
  exact kk C H locs ls hl hP hD hS
theorem x_imul {a b : Int} (d : decode cc pc = .ok (.imul, 1)) (kk : X κ R own cc nL w k n (pc + 1) lv (.int (zI (a * b)) :: st)) : X κ R own cc nL w k n pc lv (.int (zI b) :: .int (zI a) :: st) := by
  intro C H locs ls hl hP hD hS
  refine lv_imul C.hx C.hb d ?_
  rw [← zI_mul]
  exact kk C H locs ls hl hP hD hS
theorem x_ladd {a b : Int} (d : decode cc pc = .ok (.ladd, 1)) (kk : X κ R own cc nL w k n (pc + 1) lv (.long (zL (a + b)) :: st)) : X κ R own cc nL w k n pc lv (.long (zL b) :: .long (zL a) :: st) := by
  intro C H locs ls hl hP hD hS
  refine lv_ladd C.hx C.hb d ?_
  rw [← zL_add]
  exact kk C H locs ls hl hP hD hS
theorem x_lsub {a b : Int} (d : decode cc pc = .ok (.lsub, 1)) (kk : X κ R own cc nL w k n (pc + 1) lv (.long (zL (a - b)) :: st)) : X κ R own cc nL w k n pc lv (.long (zL b) :: .long (zL a) :: st) := by
  intro C H locs ls hl hP hD hS
  refine lv_lsub C.hx C.hb d ?_
  rw [← zL_sub]
  exact kk C H locs ls hl hP hD hS
theorem x_idiv {a b c : Int} (d : decode cc pc = .ok (.idiv, 1)) (hb : ¬ zI b = 0) (hc : zI a / zI b = zI c) (kk : X κ R own cc nL w k n (pc + 1) lv (.int (zI c) :: st)) : X κ R own cc nL w k n pc lv (.int (zI b) :: .int (zI a) :: st) := by
  intro C H locs ls hl hP hD hS
  refine lv_idiv C.hx C.hb d hb ?_
  rw [hc]
  exact kk C H locs ls hl hP hD hS
theorem x_irem {a b c : Int} (d : decode cc pc = .ok (.irem, 1)) (hb : ¬ zI b = 0) (hc : zI a - zI a / zI b * zI b = zI c) (kk : X κ R own cc nL w k n (pc + 1) lv (.int (zI c) :: st)) : X κ R own cc nL w k n pc lv (.int (zI b) :: .int (zI a) :: st) := by
  intro C H locs ls hl hP hD hS
  refine lv_irem C.hx C.hb d hb ?_
  rw [hc]
  exact kk C H locs ls hl hP hD hS
theorem x_iand {a b c : Int} (d : decode cc pc = .ok (.iand, 1)) (hc : zI a &&& zI b = zI c) (kk : X κ R own cc nL w k n (pc + 1) lv (.int (zI c) :: st)) : X κ R own cc nL w k n pc lv (.int (zI b) :: .int (zI a) :: st) := by
  intro C H locs ls hl hP hD hS
  refine lv_iand C.hx C.hb d ?_
  rw [hc]
  exact kk C H locs ls hl hP hD hS
theorem x_land {a b c : Int} (d : decode cc pc = .ok (.land, 1)) (hc : zL a &&& zL b = zL c) (kk : X κ R own cc nL w k n (pc + 1) lv (.long (zL c) :: st)) : X κ R own cc nL w k n pc lv (.long (zL b) :: .long (zL a) :: st) := by
  intro C H locs ls hl hP hD hS
  refine lv_land C.hx C.hb d ?_
  rw [hc]
  exact kk C H locs ls hl hP hD hS
theorem x_lor {a b c : Int} (d : decode cc pc = .ok (.lor, 1)) (hc : zL a ||| zL b = zL c) (kk : X κ R own cc nL w k n (pc + 1) lv (.long (zL c) :: st)) : X κ R own cc nL w k n pc lv (.long (zL b) :: .long (zL a) :: st) := by
  intro C H locs ls hl hP hD hS
  refine lv_lor C.hx C.hb d ?_
  rw [hc]
  exact kk C H locs ls hl hP hD hS
theorem x_lshl {a b c : Int} (d : decode cc pc = .ok (.lshl, 1)) (hc : zL a <<< ((zI b).toInt64 &&& 63) = zL c) (kk : X κ R own cc nL w k n (pc + 1) lv (.long (zL c) :: st)) : X κ R own cc nL w k n pc lv (.int (zI b) :: .long (zL a) :: st) := by
  intro C H locs ls hl hP hD hS
  exact lv_lshl C.hx C.hb d hc (kk C H locs ls hl hP hD hS)
theorem x_lshr {a b c : Int} (d : decode cc pc = .ok (.lshr, 1)) (hc : zL a >>> ((zI b).toInt64 &&& 63) = zL c) (kk : X κ R own cc nL w k n (pc + 1) lv (.long (zL c) :: st)) : X κ R own cc nL w k n pc lv (.int (zI b) :: .long (zL a) :: st) := by
  intro C H locs ls hl hP hD hS
  exact lv_lshr C.hx C.hb d hc (kk C H locs ls hl hP hD hS)
theorem x_lushr {a b c : Int} (d : decode cc pc = .ok (.lushr, 1)) (hc : ((zL a).toUInt64 >>> ((zI b).toInt64.toUInt64 &&& Int64.toUInt64 63)).toInt64 = zL c) (kk : X κ R own cc nL w k n (pc + 1) lv (.long (zL c) :: st)) : X κ R own cc nL w k n pc lv (.int (zI b) :: .long (zL a) :: st) := by
  intro C H locs ls hl hP hD hS
  exact lv_lushr C.hx C.hb d hc (kk C H locs ls hl hP hD hS)
theorem x_i2l {a : Int} (d : decode cc pc = .ok (.i2l, 1)) (ha : Rg a) (kk : X κ R own cc nL w k n (pc + 1) lv (.long (zL a) :: st)) : X κ R own cc nL w k n pc lv (.int (zI a) :: st) := by
  intro C H locs ls hl hP hD hS
  exact lv_i2l C.hx C.hb d (zI_l ha) (kk C H locs ls hl hP hD hS)
theorem x_l2i {a c : Int} (d : decode cc pc = .ok (.l2i, 1)) (hc : (zL a).toInt32 = zI c) (kk : X κ R own cc nL w k n (pc + 1) lv (.int (zI c) :: st)) : X κ R own cc nL w k n pc lv (.long (zL a) :: st) := by
  intro C H locs ls hl hP hD hS
  exact lv_l2i C.hx C.hb d hc (kk C H locs ls hl hP hD hS)
theorem x_lcmp {a b : Int} (d : decode cc pc = .ok (.lcmp, 1)) (ha : RgL a) (hb : RgL b) (kk : X κ R own cc nL w k n (pc + 1) lv (.int (zI (zc a b)) :: st)) : X κ R own cc nL w k n pc lv (.long (zL b) :: .long (zL a) :: st) := by
  intro C H locs ls hl hP hD hS
  refine W.lcmp C.hx C.hb d ?_
  rw [zc_eq ha hb]
  exact kk C H locs ls hl hP hD hS
theorem x_dup {v : Value} (d : decode cc pc = .ok (.dup, 1)) (h : v.category = 1) (kk : X κ R own cc nL w k n (pc + 1) lv (v :: v :: st)) : X κ R own cc nL w k n pc lv (v :: st) := by
  intro C H locs ls hl hP hD hS
  exact lv_dup C.hx C.hb d h (kk C H locs ls hl hP hD hS)
theorem x_pop {v : Value} (d : decode cc pc = .ok (.pop, 1)) (h : v.category = 1) (kk : X κ R own cc nL w k n (pc + 1) lv st) : X κ R own cc nL w k n pc lv (v :: st) := by
  intro C H locs ls hl hP hD hS
  exact lv_pop C.hx C.hb d h (kk C H locs ls hl hP hD hS)
theorem x_dup2 {v u : Value} (d : decode cc pc = .ok (.dup2, 1)) (h : v.category = 1) (h2 : u.category = 1) (kk : X κ R own cc nL w k n (pc + 1) lv (v :: u :: v :: u :: st)) : X κ R own cc nL w k n pc lv (v :: u :: st) := by
  intro C H locs ls hl hP hD hS
  exact lv_dup2_11 C.hx C.hb d h h2 (kk C H locs ls hl hP hD hS)
theorem x_dup2_2 {v : Value} (d : decode cc pc = .ok (.dup2, 1)) (h : v.category = 2) (kk : X κ R own cc nL w k n (pc + 1) lv (v :: v :: st)) : X κ R own cc nL w k n pc lv (v :: st) := by
  intro C H locs ls hl hP hD hS
  exact lv_dup2_2 C.hx C.hb d h (kk C H locs ls hl hP hD hS)
theorem x_dup_x1 {v u : Value} (d : decode cc pc = .ok (.dup_x1, 1)) (h : v.category = 1) (h2 : u.category = 1) (kk : X κ R own cc nL w k n (pc + 1) lv (v :: u :: v :: st)) : X κ R own cc nL w k n pc lv (v :: u :: st) := by
  intro C H locs ls hl hP hD hS
  exact lv_dup_x1 C.hx C.hb d h h2 (kk C H locs ls hl hP hD hS)
theorem x_dup_x2 {v u x : Value} (d : decode cc pc = .ok (.dup_x2, 1)) (h : v.category = 1) (h2 : u.category = 1) (h3 : x.category = 1) (kk : X κ R own cc nL w k n (pc + 1) lv (v :: u :: x :: v :: st)) : X κ R own cc nL w k n pc lv (v :: u :: x :: st) := by
  intro C H locs ls hl hP hD hS
  exact lv_dup_x2 C.hx C.hb d h h2 h3 (kk C H locs ls hl hP hD hS)
theorem x_goto {off : Int} {tgt : Nat} (d : decode cc pc = .ok (.goto off, 3)) (ht : (pc : Int) + off = (tgt : Int)) (kk : X κ R own cc nL w k n tgt lv st) : X κ R own cc nL w k n pc lv st := by
  intro C H locs ls hl hP hD hS
  exact lv_goto C.hx C.hb d ht (kk C H locs ls hl hP hD hS)
theorem x_icmp_eq {a b : Int} {off : Int} {tgt : Nat} (d : decode cc pc = .ok (.if_icmp .eq off, 3)) (ht : (pc : Int) + off = (tgt : Int)) (ha : Rg a) (hb : Rg b) (kt : a = b → X κ R own cc nL w k n tgt lv st) (kf : a ≠ b → X κ R own cc nL w k n (pc + 3) lv st) : X κ R own cc nL w k n pc lv (.int (zI b) :: .int (zI a) :: st) := by
  intro C H locs ls hl hP hD hS
  have e1 := zI_toInt ha; have e2 := zI_toInt hb
  refine lv_icmp_eq C.hx C.hb d ht (fun h => kt ?_ C H locs ls hl hP hD hS) (fun h => kf ?_ C H locs ls hl hP hD hS)
  · simp only [← Int32.toInt_inj, e1, e2] at h; omega
  · simp only [← Int32.toInt_inj, e1, e2] at h; omega
theorem x_if_eq {a : Int} {off : Int} {tgt : Nat} (d : decode cc pc = .ok (.ifCond .eq off, 3)) (ht : (pc : Int) + off = (tgt : Int)) (ha : Rg a) (kt : a = 0 → X κ R own cc nL w k n tgt lv st) (kf : a ≠ 0 → X κ R own cc nL w k n (pc + 3) lv st) : X κ R own cc nL w k n pc lv (.int (zI a) :: st) := by
  intro C H locs ls hl hP hD hS
  have hb := Rg_0
  have e1 := zI_toInt ha; have e2 := zI_toInt hb; rw [zI_0] at e2
  refine lv_if_eq C.hx C.hb d ht (fun h => kt ?_ C H locs ls hl hP hD hS) (fun h => kf ?_ C H locs ls hl hP hD hS)
  · simp only [← Int32.toInt_inj, e1, e2] at h; omega
  · simp only [← Int32.toInt_inj, e1, e2] at h; omega
theorem x_icmp_ne {a b : Int} {off : Int} {tgt : Nat} (d : decode cc pc = .ok (.if_icmp .ne off, 3)) (ht : (pc : Int) + off = (tgt : Int)) (ha : Rg a) (hb : Rg b) (kt : a ≠ b → X κ R own cc nL w k n tgt lv st) (kf : a = b → X κ R own cc nL w k n (pc + 3) lv st) : X κ R own cc nL w k n pc lv (.int (zI b) :: .int (zI a) :: st) := by
  intro C H locs ls hl hP hD hS
  have e1 := zI_toInt ha; have e2 := zI_toInt hb
  refine lv_icmp_ne C.hx C.hb d ht (fun h => kt ?_ C H locs ls hl hP hD hS) (fun h => kf ?_ C H locs ls hl hP hD hS)
  · simp only [← Int32.toInt_inj, e1, e2] at h; omega
  · simp only [← Int32.toInt_inj, e1, e2] at h; omega
theorem x_if_ne {a : Int} {off : Int} {tgt : Nat} (d : decode cc pc = .ok (.ifCond .ne off, 3)) (ht : (pc : Int) + off = (tgt : Int)) (ha : Rg a) (kt : a ≠ 0 → X κ R own cc nL w k n tgt lv st) (kf : a = 0 → X κ R own cc nL w k n (pc + 3) lv st) : X κ R own cc nL w k n pc lv (.int (zI a) :: st) := by
  intro C H locs ls hl hP hD hS
  have hb := Rg_0
  have e1 := zI_toInt ha; have e2 := zI_toInt hb; rw [zI_0] at e2
  refine lv_if_ne C.hx C.hb d ht (fun h => kt ?_ C H locs ls hl hP hD hS) (fun h => kf ?_ C H locs ls hl hP hD hS)
  · simp only [← Int32.toInt_inj, e1, e2] at h; omega
  · simp only [← Int32.toInt_inj, e1, e2] at h; omega
theorem x_icmp_lt {a b : Int} {off : Int} {tgt : Nat} (d : decode cc pc = .ok (.if_icmp .lt off, 3)) (ht : (pc : Int) + off = (tgt : Int)) (ha : Rg a) (hb : Rg b) (kt : a < b → X κ R own cc nL w k n tgt lv st) (kf : b ≤ a → X κ R own cc nL w k n (pc + 3) lv st) : X κ R own cc nL w k n pc lv (.int (zI b) :: .int (zI a) :: st) := by
  intro C H locs ls hl hP hD hS
  have e1 := zI_toInt ha; have e2 := zI_toInt hb
  refine lv_icmp_lt C.hx C.hb d ht (fun h => kt ?_ C H locs ls hl hP hD hS) (fun h => kf ?_ C H locs ls hl hP hD hS)
  · simp only [Int32.lt_iff_toInt_lt, Int32.le_iff_toInt_le, ge_iff_le, gt_iff_lt, e1, e2] at h; omega
  · simp only [Int32.lt_iff_toInt_lt, Int32.le_iff_toInt_le, ge_iff_le, gt_iff_lt, e1, e2] at h; omega
theorem x_if_lt {a : Int} {off : Int} {tgt : Nat} (d : decode cc pc = .ok (.ifCond .lt off, 3)) (ht : (pc : Int) + off = (tgt : Int)) (ha : Rg a) (kt : a < 0 → X κ R own cc nL w k n tgt lv st) (kf : 0 ≤ a → X κ R own cc nL w k n (pc + 3) lv st) : X κ R own cc nL w k n pc lv (.int (zI a) :: st) := by
  intro C H locs ls hl hP hD hS
  have hb := Rg_0
  have e1 := zI_toInt ha; have e2 := zI_toInt hb; rw [zI_0] at e2
  refine lv_if_lt C.hx C.hb d ht (fun h => kt ?_ C H locs ls hl hP hD hS) (fun h => kf ?_ C H locs ls hl hP hD hS)
  · simp only [Int32.lt_iff_toInt_lt, Int32.le_iff_toInt_le, ge_iff_le, gt_iff_lt, e1, e2] at h; omega
  · simp only [Int32.lt_iff_toInt_lt, Int32.le_iff_toInt_le, ge_iff_le, gt_iff_lt, e1, e2] at h; omega
theorem x_icmp_ge {a b : Int} {off : Int} {tgt : Nat} (d : decode cc pc = .ok (.if_icmp .ge off, 3)) (ht : (pc : Int) + off = (tgt : Int)) (ha : Rg a) (hb : Rg b) (kt : b ≤ a → X κ R own cc nL w k n tgt lv st) (kf : a < b → X κ R own cc nL w k n (pc + 3) lv st) : X κ R own cc nL w k n pc lv (.int (zI b) :: .int (zI a) :: st) := by
  intro C H locs ls hl hP hD hS
  have e1 := zI_toInt ha; have e2 := zI_toInt hb
  refine lv_icmp_ge C.hx C.hb d ht (fun h => kt ?_ C H locs ls hl hP hD hS) (fun h => kf ?_ C H locs ls hl hP hD hS)
  · simp only [Int32.lt_iff_toInt_lt, Int32.le_iff_toInt_le, ge_iff_le, gt_iff_lt, e1, e2] at h; omega
  · simp only [Int32.lt_iff_toInt_lt, Int32.le_iff_toInt_le, ge_iff_le, gt_iff_lt, e1, e2] at h; omega
theorem x_if_ge {a : Int} {off : Int} {tgt : Nat} (d : decode cc pc = .ok (.ifCond .ge off, 3)) (ht : (pc : Int) + off = (tgt : Int)) (ha : Rg a) (kt : 0 ≤ a → X κ R own cc nL w k n tgt lv st) (kf : a < 0 → X κ R own cc nL w k n (pc + 3) lv st) : X κ R own cc nL w k n pc lv (.int (zI a) :: st) := by
  intro C H locs ls hl hP hD hS
  have hb := Rg_0
  have e1 := zI_toInt ha; have e2 := zI_toInt hb; rw [zI_0] at e2
  refine lv_if_ge C.hx C.hb d ht (fun h => kt ?_ C H locs ls hl hP hD hS) (fun h => kf ?_ C H locs ls hl hP hD hS)
  · simp only [Int32.lt_iff_toInt_lt, Int32.le_iff_toInt_le, ge_iff_le, gt_iff_lt, e1, e2] at h; omega
  · simp only [Int32.lt_iff_toInt_lt, Int32.le_iff_toInt_le, ge_iff_le, gt_iff_lt, e1, e2] at h; omega
theorem x_icmp_gt {a b : Int} {off : Int} {tgt : Nat} (d : decode cc pc = .ok (.if_icmp .gt off, 3)) (ht : (pc : Int) + off = (tgt : Int)) (ha : Rg a) (hb : Rg b) (kt : b < a → X κ R own cc nL w k n tgt lv st) (kf : a ≤ b → X κ R own cc nL w k n (pc + 3) lv st) : X κ R own cc nL w k n pc lv (.int (zI b) :: .int (zI a) :: st) := by
  intro C H locs ls hl hP hD hS
  have e1 := zI_toInt ha; have e2 := zI_toInt hb
  refine lv_icmp_gt C.hx C.hb d ht (fun h => kt ?_ C H locs ls hl hP hD hS) (fun h => kf ?_ C H locs ls hl hP hD hS)
  · simp only [Int32.lt_iff_toInt_lt, Int32.le_iff_toInt_le, ge_iff_le, gt_iff_lt, e1, e2] at h; omega
  · simp only [Int32.lt_iff_toInt_lt, Int32.le_iff_toInt_le, ge_iff_le, gt_iff_lt, e1, e2] at h; omega
theorem x_if_gt {a : Int} {off : Int} {tgt : Nat} (d : decode cc pc = .ok (.ifCond .gt off, 3)) (ht : (pc : Int) + off = (tgt : Int)) (ha : Rg a) (kt : 0 < a → X κ R own cc nL w k n tgt lv st) (kf : a ≤ 0 → X κ R own cc nL w k n (pc + 3) lv st) : X κ R own cc nL w k n pc lv (.int (zI a) :: st) := by
  intro C H locs ls hl hP hD hS
  have hb := Rg_0
  have e1 := zI_toInt ha; have e2 := zI_toInt hb; rw [zI_0] at e2
  refine lv_if_gt C.hx C.hb d ht (fun h => kt ?_ C H locs ls hl hP hD hS) (fun h => kf ?_ C H locs ls hl hP hD hS)
  · simp only [Int32.lt_iff_toInt_lt, Int32.le_iff_toInt_le, ge_iff_le, gt_iff_lt, e1, e2] at h; omega
  · simp only [Int32.lt_iff_toInt_lt, Int32.le_iff_toInt_le, ge_iff_le, gt_iff_lt, e1, e2] at h; omega
theorem x_icmp_le {a b : Int} {off : Int} {tgt : Nat} (d : decode cc pc = .ok (.if_icmp .le off, 3)) (ht : (pc : Int) + off = (tgt : Int)) (ha : Rg a) (hb : Rg b) (kt : a ≤ b → X κ R own cc nL w k n tgt lv st) (kf : b < a → X κ R own cc nL w k n (pc + 3) lv st) : X κ R own cc nL w k n pc lv (.int (zI b) :: .int (zI a) :: st) := by
  intro C H locs ls hl hP hD hS
  have e1 := zI_toInt ha; have e2 := zI_toInt hb
  refine lv_icmp_le C.hx C.hb d ht (fun h => kt ?_ C H locs ls hl hP hD hS) (fun h => kf ?_ C H locs ls hl hP hD hS)
  · simp only [Int32.lt_iff_toInt_lt, Int32.le_iff_toInt_le, ge_iff_le, gt_iff_lt, e1, e2] at h; omega
  · simp only [Int32.lt_iff_toInt_lt, Int32.le_iff_toInt_le, ge_iff_le, gt_iff_lt, e1, e2] at h; omega
theorem x_if_le {a : Int} {off : Int} {tgt : Nat} (d : decode cc pc = .ok (.ifCond .le off, 3)) (ht : (pc : Int) + off = (tgt : Int)) (ha : Rg a) (kt : a ≤ 0 → X κ R own cc nL w k n tgt lv st) (kf : 0 < a → X κ R own cc nL w k n (pc + 3) lv st) : X κ R own cc nL w k n pc lv (.int (zI a) :: st) := by
  intro C H locs ls hl hP hD hS
  have hb := Rg_0
  have e1 := zI_toInt ha; have e2 := zI_toInt hb; rw [zI_0] at e2
  refine lv_if_le C.hx C.hb d ht (fun h => kt ?_ C H locs ls hl hP hD hS) (fun h => kf ?_ C H locs ls hl hP hD hS)
  · simp only [Int32.lt_iff_toInt_lt, Int32.le_iff_toInt_le, ge_iff_le, gt_iff_lt, e1, e2] at h; omega
  · simp only [Int32.lt_iff_toInt_lt, Int32.le_iff_toInt_le, ge_iff_le, gt_iff_lt, e1, e2] at h; omega
end XR
