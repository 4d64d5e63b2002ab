/-! methods that may throw -/
def wR : List (Nat × String) := [(151, "there are 40 nodes"), (54, "the symbol is not 0 .. 9"), (59, "a second argument without a first"), (69, "no such node"), (77, "there are 20 equations"), (87, "there would be no solution"), (92, "there are not so many equations"), (105, "nothing is counted under this number"), (135, "the value is shorter")]
def RS (U : State) : Prop := ∀ q ∈ wR, ∃ a : Nat, vk_R rc_T q.1 q.2 a U
abbrev Zs (A : Nat → Prop) (U : State) (H : Heap) : Prop := vx_Zq Bundle.tN "UNASSIGNED_STACK" Bundle.steD A U H ∧ vx_Zq Bundle.tN "SUPPRESSED_SENTINEL" Bundle.listD A U H
def Zx (κ : Kx) : Prop := κ.1.2.1.stackTraces = false ∧ RS κ.1.2.2.2.1 ∧ Zs κ.2.2.1.2.1 κ.1.2.2.2.1 κ.1.2.2.2.1.heap
def PreX (l : Launch) (D : va_G) (ca : Nat → ClassId) (w : va_W) (sz : Nat) (U : State) : Prop := l.stackTraces = false ∧ Pre D ca w sz U ∧ RS U ∧ Zs (va_A w sz) U U.heap
theorem preX_blind (l : Launch) (D : va_G) (ca : Nat → ClassId) (w : va_W) (sz : Nat) (av : List Value) : FrameBlind (va_Pc av (PreX l D ca w sz)) := by
  intro a U g mk h
  obtain ⟨h0, h1, h2, h3, h4⟩ := h
  obtain ⟨-, h5⟩ := pre_blind D ca w sz av a U g mk ⟨h0, h2⟩
  exact ⟨h0, h1, h5, fun q hq => by
    obtain ⟨a9, h9⟩ := h3 q hq
    exact ⟨a9, vk_R.same (u := U) rfl h9⟩, h4.1.moved (Vm.Alike.refl U.vm), h4.2.moved (Vm.Alike.refl U.vm)⟩
/-- the frame with an exception of class E over it -/
def XX (κ : Kx) (R : Room) (own : String) (cc : ByteArray) (nL : Nat) (w : va_W) (k n pc : Nat) (lv : List (Nat × Value)) (E : String) : Prop :=
  Cx κ own cc nL → ∀ (H : Heap) (locs : List Loc) (ls : Array Slot) (st : List Value) (q : Addr) (ce : Cell), lv_has ls nL lv → va_P κ.2.2.1.1 wcl w H → va_D κ.2.2.1.2.1 w → va_S κ.2.2.1.2.1 κ.1.2.2.2.1.heap H locs → H[q]? = some ce → ce.vm = .none → κ.1.2.2.2.1.vm.findClass E = some ce.cls →
    vx_W κ.1.1 κ.1.2.1 κ.1.2.2.1 R κ.1.2.2.2.1 κ.1.2.2.2.2.1 κ.1.2.2.2.2.2 κ.2.1.1 κ.2.1.2.1 κ.2.1.2.2 H locs k n κ.2.2.2 (F0 κ.1.2.2.2.2.1 pc ls st) q
/-- a place where 'throw new E(text)' stands -/
def TF (own : String) (cc : ByteArray) (pc : Nat) (E : String) : Prop := ∃ (ik is ic : Nat) (text : String) (names : List String), decode cc pc = .ok (.new ik, 3) ∧ decode cc (pc + 3) = .ok (.dup, 1) ∧ decode cc (pc + 4) = .ok (.ldc is, 2) ∧ decode cc (pc + 6) = .ok (.invokespecial ic, 3) ∧ decode cc (pc + 9) = .ok (.athrow, 1) ∧
  Bundle.fit E = true ∧ (∀ x ∈ names, Bundle.fit x = true) ∧ names.length = 2 ∧ Cond.classLink own ik E ∈ wB ∧ Cond.initialized E ∈ wB ∧ own = rc_T ∧ (is, text) ∈ wR ∧ (∀ w ∈ vx_atS own ic E names, w ∈ wB ∨ w ∈ wN) ∧ (∀ w ∈ vx_atS own ic E names, vx_ot w = true)
def XQ {S : Type} (D : va_G) (w : va_W) (sz : Nat) (wf : S → va_W) (px : String → S → Prop) : String → State → State → Prop := vx_X (fun _ : S => True) (fun E u t => px E u ∧ PB D w sz wf u t) (va_A w sz)
def CXI {S : Type} (l : Launch) (y : MethodName) (cw : Cond) (rm : Room) (mc ms : Nat) (D : va_G) (ca : Nat → ClassId) (av : List Value) (w : va_W) (post : Int → S → Prop) (px : String → S → Prop) (wf : S → va_W) : Prop :=
  ∀ sz : Nat, vx_Met l y (cw :: wB) rm (va_Pc av (PreX l D ca w sz)) (va_Qi (fun (r : Int32) (u : S) => ∃ z : Int, r = zI z ∧ post z u) (PB D w sz wf) (va_A w sz)) (XQ D w sz wf px) mc ms (va_A w sz)
def CXL {S : Type} (l : Launch) (y : MethodName) (cw : Cond) (rm : Room) (mc ms : Nat) (D : va_G) (ca : Nat → ClassId) (av : List Value) (w : va_W) (post : Int → S → Prop) (px : String → S → Prop) (wf : S → va_W) : Prop :=
  ∀ sz : Nat, vx_Met l y (cw :: wB) rm (va_Pc av (PreX l D ca w sz)) (va_Ql (fun (r : Int64) (u : S) => ∃ z : Int, r = zL z ∧ post z u) (PB D w sz wf) (va_A w sz)) (XQ D w sz wf px) mc ms (va_A w sz)
def CXV {S : Type} (l : Launch) (y : MethodName) (cw : Cond) (rm : Room) (mc ms : Nat) (D : va_G) (ca : Nat → ClassId) (av : List Value) (w : va_W) (post : S → Prop) (px : String → S → Prop) (wf : S → va_W) : Prop :=
  ∀ sz : Nat, vx_Met l y (cw :: wB) rm (va_Pc av (PreX l D ca w sz)) (va_Qv post (PB D w sz wf) (va_A w sz)) (XQ D w sz wf px) mc ms (va_A w sz)
theorem x_throw9 {S : Type} {κ : Kx} {R : Room} {own : String} {cc : ByteArray} {nL k n pc mc ms : Nat} {w w1 : va_W} {lv : List (Nat × Value)} {st : List Value} {Qc : Array Value → State → Outcome → State → Prop} {px : String → S → Prop} {wf : S → va_W} {E : String} {u : S} (Z : Zx κ) (hQ : κ.2.2.2 = vx_MQ κ.2.1.1 Qc (XQ κ.2.2.1.1 w1 κ.1.2.2.2.1.heap.size wf px) κ.1.2.2.2.2.2 κ.1.2.2.2.1 mc ms κ.2.2.1.2.1) (hA : κ.2.2.1.2.1 = va_A w1 κ.1.2.2.2.1.heap.size) (htab : ∀ x ∈ κ.2.1.2.2.exceptionTable.toList, False)
    (hw : wf u = w) (T : TF own cc pc E) (hp : px E u) (hk : k + 1 ≤ mc) (hn : n + 6 ≤ ms) (hR : 6 ≤ R.frames ∧ 110 ≤ R.locals ∧ mc ≤ R.cells ∧ ms ≤ R.slots) (hst : (st.map fun v => v.category).sum ≤ 8) : X κ R own cc nL w k n pc lv st := by
  intro C H locs ls hl hP hD hS
  obtain ⟨ik, is, ic, text, names, d0, d3, d4, d6, d9, f1, f2, f3, t1, t2, t3, t4, t5, t6⟩ := T
  obtain ⟨z1, z2, z3, z4⟩ := Z
  obtain ⟨sa, hsa⟩ := z2 _ t4
  rw [← t3] at hsa
  have good : ∀ x, x ∈ wB → vx_ot x = true := fun x hx => by
    have g := (List.mem_filter.mp hx).2
    unfold vx_ot
    rw [g, Bool.or_true]
  unfold XW
  rw [hQ]
  refine vx_throwS C.hx C.hb z1 (names := names) C.ho f1 f2 (C.ht _ t1) (C.ht _ t2) hsa (fun x hx => ?_) (fun x hx => ?_) z3 z4 hS (hl.1.trans C.hm.symm) d0 d3 d4 d6 d9 (fun x hx => (htab x hx).elim) (by rw [f3]; omega) (by rw [f3]; omega) (by omega) (by omega) C.hl (fun t ht h1 h2 => ?_) hS.2.2 hk hn
  · rcases t5 x hx with h | h
    · exact C.ht _ h
    · exact va_Nw.use (by have h9 := wN_fn x h; cases x <;> first | rfl | (simp [isFN] at h9)) (C.hN x h)
  · rcases List.mem_cons.mp hx with h | h
    · rw [h]; exact good _ t1
    · rcases List.mem_cons.mp h with h | h
      · rw [h]; exact good _ t2
      · exact t6 x h
  · subst hw
    refine ⟨u, trivial, ⟨hp, fun i q hq => (hP i q hq).kept (h2 q.1 (hP i q hq).lt), ?_⟩, ?_⟩
    · rw [← hA]; exact hD
    · rw [← hA]
      exact ⟨Nat.le_trans hS.1 h1, fun q q1 q2 => by rw [h2 q (Nat.lt_of_lt_of_le q1 hS.1)]; exact hS.2.1 q q1 q2⟩
theorem x_out9 {S : Type} {κ : Kx} {R : Room} {own : String} {cc : ByteArray} {nL k n pc mc ms : Nat} {w w1 : va_W} {lv : List (Nat × Value)} {Qc : Array Value → State → Outcome → State → Prop} {px : String → S → Prop} {wf : S → va_W} {E : String} {u : S} (hQ : κ.2.2.2 = vx_MQ κ.2.1.1 Qc (XQ κ.2.2.1.1 w1 κ.1.2.2.2.1.heap.size wf px) κ.1.2.2.2.2.2 κ.1.2.2.2.1 mc ms κ.2.2.1.2.1) (hA : κ.2.2.1.2.1 = va_A w1 κ.1.2.2.2.1.heap.size) (htab : ∀ x ∈ κ.2.1.2.2.exceptionTable.toList, False)
    (hw : wf u = w) (hp : px E u) (hk : k ≤ mc) (hn : n ≤ ms) : XX κ R own cc nL w k n pc lv E := by
  intro C H locs ls st q ce hl hP hD hS hce hcv hcl
  rw [hQ]
  refine vx_out (fun x hx => (htab x hx).elim) C.hl hce hcv hcl (fun t ht ha => ?_) hS.2.2 hk hn
  subst hw
  exact ⟨u, trivial, ⟨hp, by rw [ht]; exact hP, by rw [← hA]; exact hD⟩, by rw [← hA]; exact hS.F ht⟩
theorem cxi_in {S : Type} {l : Launch} {y : MethodName} {cw : Cond} {rm : Room} {mc ms : Nat} {D : va_G} {ca : Nat → ClassId} {av : List Value} {w : va_W} {post : Int → S → Prop} {px : String → S → Prop} {wf : S → va_W} (own : String) (cc : ByteArray) (nL : Nat) (rt : FieldType) (hcw : cw = Cond.code y cc nL (some rt)) (hown : y.cls = own) (hy : plainName y.cls = true) (hlen : (lg_sl av).length ≤ nL) (hR : 6 ≤ rm.frames ∧ 110 ≤ rm.locals ∧ mc ≤ rm.cells ∧ ms ≤ rm.slots)
    (body : ∀ κ : Kx, κ.1.2.1 = l → κ.2.2.1.1 = D → κ.2.2.1.2.2 = ca → Zx κ → (∀ (k n : Nat) (z : Int) (u : S) (pc : Nat) (lv : List (Nat × Value)), k ≤ mc → n ≤ ms → post z u → narrow rt (.int (zI z)) = .int (zI z) → decode cc pc = .ok (.ireturn, 1) → X κ rm own cc nL (wf u) k n pc lv [.int (zI z)]) →
      (∀ (E : String) (u : S) (k n pc : Nat) (lv : List (Nat × Value)) (st : List Value), px E u → TF own cc pc E → k + 1 ≤ mc → n + 6 ≤ ms → (st.map fun v => v.category).sum ≤ 8 → X κ rm own cc nL (wf u) k n pc lv st) →
      (∀ (E : String) (u : S) (k n pc : Nat) (lv : List (Nat × Value)), px E u → k ≤ mc → n ≤ ms → XX κ rm own cc nL (wf u) k n pc lv E) → X κ rm own cc nL w 0 0 0 (lv_args 0 av) []) : CXI l y cw rm mc ms D ca av w post px wf := by
  intro sz
  refine vx_ofW (cc := cc) (maxL := nL) (ret := (some rt)) hy (by rw [hcw]) ?_
  intro p e s m args below meth c s₁ B hml htab hv
  obtain ⟨rfl, hl0, ⟨hsz, hP, hK, hN, hD0⟩, hrs, hzs⟩ := hv
  have hts := atoms_spec (ws := cw :: wB) B.pre
  have hown : s.vm.findClass own = some m.cls := hown ▸ findClass_of_methodNamed B.named
  have hlk := B.notSynchronized
  subst hsz
  have hD := hD0.self (sz := s.heap.size)
  have hl := lv_entry av (n := nL) hlen
  rw [lg_entry_eq]
  refine body ((p, l, e, s, m, av.toArray), (below, meth, c), (D, va_A w s.heap.size, ca), vx_MQ below (va_Qi (fun (r : Int32) (u : S) => ∃ z : Int, r = zI z ∧ post z u) (PB D w s.heap.size wf) (va_A w s.heap.size)) (XQ D w s.heap.size wf px) av.toArray s mc ms (va_A w s.heap.size)) rfl rfl rfl ⟨hl0, hrs, hzs⟩ ?_ (fun E u k n pc lv st hp T hk hn hst => x_throw9 ⟨hl0, hrs, hzs⟩ rfl rfl htab rfl T hp hk hn hR hst) (fun E u k n pc lv hp hk hn => x_out9 rfl rfl htab rfl hp hk hn) ⟨B.exec, B.bytes, hml, hown, fun x hx => hts x (List.mem_cons_of_mem _ hx), hK, hN, hlk, fun q h => Or.inr h⟩ s.heap [] _ hl hP hD va_S.rf
  intro k n z u pc lv hk hn hpost hnar d C H locs ls hl hP hD hS
  refine vx_ret (W.widen hk hn ?_)
  exact W.zret B.exec B.bytes B.returns hnar (fun t ht hW => ⟨⟨zI z, u, rfl, ⟨z, rfl, hpost⟩, by rw [ht]; exact hP, hD⟩, hS.F ht⟩) hS.2.2 d
theorem cxl_in {S : Type} {l : Launch} {y : MethodName} {cw : Cond} {rm : Room} {mc ms : Nat} {D : va_G} {ca : Nat → ClassId} {av : List Value} {w : va_W} {post : Int → S → Prop} {px : String → S → Prop} {wf : S → va_W} (own : String) (cc : ByteArray) (nL : Nat) (hcw : cw = Cond.code y cc nL (some .long)) (hown : y.cls = own) (hy : plainName y.cls = true) (hlen : (lg_sl av).length ≤ nL) (hR : 6 ≤ rm.frames ∧ 110 ≤ rm.locals ∧ mc ≤ rm.cells ∧ ms ≤ rm.slots)
    (body : ∀ κ : Kx, κ.1.2.1 = l → κ.2.2.1.1 = D → κ.2.2.1.2.2 = ca → Zx κ → (∀ (k n : Nat) (z : Int) (u : S) (pc : Nat) (lv : List (Nat × Value)), k ≤ mc → n ≤ ms → post z u → decode cc pc = .ok (.lreturn, 1) → X κ rm own cc nL (wf u) k n pc lv [.long (zL z)]) →
      (∀ (E : String) (u : S) (k n pc : Nat) (lv : List (Nat × Value)) (st : List Value), px E u → TF own cc pc E → k + 1 ≤ mc → n + 6 ≤ ms → (st.map fun v => v.category).sum ≤ 8 → X κ rm own cc nL (wf u) k n pc lv st) →
      (∀ (E : String) (u : S) (k n pc : Nat) (lv : List (Nat × Value)), px E u → k ≤ mc → n ≤ ms → XX κ rm own cc nL (wf u) k n pc lv E) → X κ rm own cc nL w 0 0 0 (lv_args 0 av) []) : CXL l y cw rm mc ms D ca av w post px wf := by
  intro sz
  refine vx_ofW (cc := cc) (maxL := nL) (ret := (some .long)) hy (by rw [hcw]) ?_
  intro p e s m args below meth c s₁ B hml htab hv
  obtain ⟨rfl, hl0, ⟨hsz, hP, hK, hN, hD0⟩, hrs, hzs⟩ := hv
  have hts := atoms_spec (ws := cw :: wB) B.pre
  have hown : s.vm.findClass own = some m.cls := hown ▸ findClass_of_methodNamed B.named
  have hlk := B.notSynchronized
  subst hsz
  have hD := hD0.self (sz := s.heap.size)
  have hl := lv_entry av (n := nL) hlen
  rw [lg_entry_eq]
  refine body ((p, l, e, s, m, av.toArray), (below, meth, c), (D, va_A w s.heap.size, ca), vx_MQ below (va_Ql (fun (r : Int64) (u : S) => ∃ z : Int, r = zL z ∧ post z u) (PB D w s.heap.size wf) (va_A w s.heap.size)) (XQ D w s.heap.size wf px) av.toArray s mc ms (va_A w s.heap.size)) rfl rfl rfl ⟨hl0, hrs, hzs⟩ ?_ (fun E u k n pc lv st hp T hk hn hst => x_throw9 ⟨hl0, hrs, hzs⟩ rfl rfl htab rfl T hp hk hn hR hst) (fun E u k n pc lv hp hk hn => x_out9 rfl rfl htab rfl hp hk hn) ⟨B.exec, B.bytes, hml, hown, fun x hx => hts x (List.mem_cons_of_mem _ hx), hK, hN, hlk, fun q h => Or.inr h⟩ s.heap [] _ hl hP hD va_S.rf
  intro k n z u pc lv hk hn hpost d C H locs ls hl hP hD hS
  refine vx_ret (W.widen hk hn ?_)
  exact W.lret B.exec B.bytes B.returns (fun t ht hW => ⟨⟨zL z, u, rfl, ⟨z, rfl, hpost⟩, by rw [ht]; exact hP, hD⟩, hS.F ht⟩) hS.2.2 d
theorem cxv_in {S : Type} {l : Launch} {y : MethodName} {cw : Cond} {rm : Room} {mc ms : Nat} {D : va_G} {ca : Nat → ClassId} {av : List Value} {w : va_W} {post : S → Prop} {px : String → S → Prop} {wf : S → va_W} (own : String) (cc : ByteArray) (nL : Nat) (hcw : cw = Cond.code y cc nL none) (hown : y.cls = own) (hy : plainName y.cls = true) (hlen : (lg_sl av).length ≤ nL) (hR : 6 ≤ rm.frames ∧ 110 ≤ rm.locals ∧ mc ≤ rm.cells ∧ ms ≤ rm.slots)
    (body : ∀ κ : Kx, κ.1.2.1 = l → κ.2.2.1.1 = D → κ.2.2.1.2.2 = ca → Zx κ → (∀ (k n : Nat) (u : S) (pc : Nat) (lv : List (Nat × Value)), k ≤ mc → n ≤ ms → post u → decode cc pc = .ok (.return_, 1) → X κ rm own cc nL (wf u) k n pc lv []) →
      (∀ (E : String) (u : S) (k n pc : Nat) (lv : List (Nat × Value)) (st : List Value), px E u → TF own cc pc E → k + 1 ≤ mc → n + 6 ≤ ms → (st.map fun v => v.category).sum ≤ 8 → X κ rm own cc nL (wf u) k n pc lv st) →
      (∀ (E : String) (u : S) (k n pc : Nat) (lv : List (Nat × Value)), px E u → k ≤ mc → n ≤ ms → XX κ rm own cc nL (wf u) k n pc lv E) → X κ rm own cc nL w 0 0 0 (lv_args 0 av) []) : CXV l y cw rm mc ms D ca av w post px wf := by
  intro sz
  refine vx_ofW (cc := cc) (maxL := nL) (ret := none) hy (by rw [hcw]) ?_
  intro p e s m args below meth c s₁ B hml htab hv
  obtain ⟨rfl, hl0, ⟨hsz, hP, hK, hN, hD0⟩, hrs, hzs⟩ := hv
  have hts := atoms_spec (ws := cw :: wB) B.pre
  have hown : s.vm.findClass own = some m.cls := hown ▸ findClass_of_methodNamed B.named
  have hlk := B.notSynchronized
  subst hsz
  have hD := hD0.self (sz := s.heap.size)
  have hl := lv_entry av (n := nL) hlen
  rw [lg_entry_eq]
  refine body ((p, l, e, s, m, av.toArray), (below, meth, c), (D, va_A w s.heap.size, ca), vx_MQ below (va_Qv post (PB D w s.heap.size wf) (va_A w s.heap.size)) (XQ D w s.heap.size wf px) av.toArray s mc ms (va_A w s.heap.size)) rfl rfl rfl ⟨hl0, hrs, hzs⟩ ?_ (fun E u k n pc lv st hp T hk hn hst => x_throw9 ⟨hl0, hrs, hzs⟩ rfl rfl htab rfl T hp hk hn hR hst) (fun E u k n pc lv hp hk hn => x_out9 rfl rfl htab rfl hp hk hn) ⟨B.exec, B.bytes, hml, hown, fun x hx => hts x (List.mem_cons_of_mem _ hx), hK, hN, hlk, fun q h => Or.inr h⟩ s.heap [] _ hl hP hD va_S.rf
  intro k n u pc lv hk hn hpost d C H locs ls hl hP hD hS
  refine vx_ret (W.widen hk hn ?_)
  exact W.vret B.exec B.bytes B.returns (fun t ht hW => ⟨⟨u, rfl, hpost, by rw [ht]; exact hP, hD⟩, hS.F ht⟩) hS.2.2 d
section XT
variable {κ : Kx} {R : Room} {own : String} {cc : ByteArray} {nL : Nat} {w : va_W} {k n pc : Nat} {lv : List (Nat × Value)} {st : List Value}
theorem x_preX {H : Heap} {locs : List Loc} {av : List Value} (C : Cx κ own cc nL) (Z : Zx κ) (hP : va_P κ.2.2.1.1 wcl w H) (hD : va_D κ.2.2.1.2.1 w) (hS : va_S κ.2.2.1.2.1 κ.1.2.2.2.1.heap H locs) : PreS κ.1.2.2.2.1 H (va_Pc av (PreX κ.1.2.1 κ.2.2.1.1 κ.2.2.1.2.2 w H.size)) av := by
  refine ⟨preX_blind _ _ _ _ _ _, fun U hU hW => ?_⟩
  obtain ⟨-, h1⟩ := (x_pre (av := av) C hP hD).2 U hU hW
  have hf := x_fr C hD hS
  refine ⟨rfl, Z.1, h1, fun q hq => ?_, ?_, ?_⟩
  · obtain ⟨a, ha⟩ := Z.2.1 q hq
    exact ⟨a, vk_R.warm hW ha⟩
  · rw [hU]
    exact ((Z.2.2.1.kept hS.2.1).moved hW.alike).narrow hf
  · rw [hU]
    exact ((Z.2.2.2.kept hS.2.1).moved hW.alike).narrow hf
theorem x_preXV {H : Heap} {locs : List Loc} {b j ci : Nat} {fs : List Value} {r : vw_C} {Cn : String} {As : List Value} (C : Cx κ own cc nL) (Z : Zx κ) (hP : va_P κ.2.2.1.1 wcl w H) (hD : va_D κ.2.2.1.2.1 w) (hS : va_S κ.2.2.1.2.1 κ.1.2.2.2.1.heap H locs) (hr : w[j]? = some (b, .inr (ci, fs))) (hc : wcl[ci]? = some r) (hn : r.1 = Cn) : PreV κ.1.2.2.2.1 H Cn b (va_Pc (.ref b :: As) (PreX κ.1.2.1 κ.2.2.1.1 κ.2.2.1.2.2 w H.size)) As := by
  subst hn
  exact ⟨preX_blind _ _ _ _ _ _, va_recv C.hK hP hc hr, (x_preX (av := .ref b :: As) C Z hP hD hS).2⟩
theorem x_cwX {idx maxL na mc ms : Nat} {y : MethodName} {cw : Cond} {rm : Room} (C : Cx κ own cc nL) (h : CF own idx y cw maxL na) (hR : rm.cells = mc ∧ rm.slots = ms ∧ rm.frames + 1 ≤ R.frames ∧ 8 + (maxL + 11) + rm.locals ≤ R.locals) : ∃ (bytes : ByteArray) (ret : Option FieldType), CallW R κ.1.2.2.2.1 κ.1.2.2.2.2.2 own y.cls idx y bytes maxL ret (cw :: wB) rm mc ms na := by
  obtain ⟨⟨bytes, ret, h1⟩, h2, h3, h4, h5, h6, h7⟩ := h
  exact ⟨bytes, ret, callB_of na C.ht (wB_all h2) (by rw [h1]) hR.1 hR.2.1 (C.ht _ h6) (C.ht _ h3) h7 ⟨hR.2.2.1, hR.2.2.2⟩, C.ht _ h4, C.ht _ h5⟩
theorem x_ti0 {S : Type} {post : Int → S → Prop} {px : String → S → Prop} {wf : S → va_W} {y : MethodName} {cw : Cond} {rm : Room} {mc ms idx maxL b j ci : Nat} {fs : List Value} {r : vw_C} (hM : CXI κ.1.2.1 y cw rm mc ms κ.2.2.1.1 κ.2.2.1.2.2 (.ref b :: []) w post px wf) (h : CF own idx y cw maxL 0) (Z : Zx κ) (hR : rm.cells = mc ∧ rm.slots = ms ∧ rm.frames + 1 ≤ R.frames ∧ 8 + (maxL + 11) + rm.locals ≤ R.locals) (hkn : k + mc ≤ R.cells ∧ n + ms ≤ R.slots) (hr : w[j]? = some (b, .inr (ci, fs))) (hc : wcl[ci]? = some r) (hcn : r.1 = y.cls) (hw : (st.map fun v => v.category).sum ≤ 8) (d : decode cc pc = .ok (.invokevirtual idx, 3))
    (kx : ∀ (E : String) (u : S), px E u → XX κ R own cc nL (wf u) (k + mc) (n + ms) pc lv E)
    (kk : ∀ (z : Int) (u : S), post z u → X κ R own cc nL (wf u) (k + mc) (n + ms) (pc + 3) lv (.int (zI z) :: st)) : X κ R own cc nL w k n pc lv (.ref b :: st) := by
  intro C H locs ls hl hP hD hS
  have hf := x_fr C hD hS
  obtain ⟨bytes, ret, hcw⟩ := x_cwX (R := R) C h hR
  refine vx_calli (vx_runV (As := []) (rest := st) ⟨C.hx, C.hb, C.hm, C.ho, C.ht⟩ (hM H.size) hcw (x_preXV C Z hP hD hS hr hc hcn) rfl rfl hl.1 rfl (lv_room hw) d hkn) hS (fun q _ h => hf q h) hf (fun q _ h => hf q h) (fun E ce q9 u t H1 locs1 ht hvm _ hB hz1 hk1 hS1 hce hcv hcl => ?_) (fun r u t H1 locs1 ht hvm hpost hB hz1 hk1 hS1 => ?_)
  · obtain ⟨hpx, hP1, hD1⟩ := hB
    rw [ht] at hP1
    exact kx E u hpx C H1 locs1 ls st q9 ce hl hP1 (hD1.weaken (fun _ q _ h => hf q.1 h)) hS1 hce hcv hcl
  · obtain ⟨z, rfl, hpost⟩ := hpost
    obtain ⟨hP1, hD1⟩ := hB
    rw [ht] at hP1
    exact kk z u hpost C H1 locs1 ls hl hP1 (hD1.weaken (fun _ q _ h => hf q.1 h)) hS1
theorem x_tl0 {S : Type} {post : Int → S → Prop} {px : String → S → Prop} {wf : S → va_W} {y : MethodName} {cw : Cond} {rm : Room} {mc ms idx maxL b j ci : Nat} {fs : List Value} {r : vw_C} (hM : CXL κ.1.2.1 y cw rm mc ms κ.2.2.1.1 κ.2.2.1.2.2 (.ref b :: []) w post px wf) (h : CF own idx y cw maxL 0) (Z : Zx κ) (hR : rm.cells = mc ∧ rm.slots = ms ∧ rm.frames + 1 ≤ R.frames ∧ 8 + (maxL + 11) + rm.locals ≤ R.locals) (hkn : k + mc ≤ R.cells ∧ n + ms ≤ R.slots) (hr : w[j]? = some (b, .inr (ci, fs))) (hc : wcl[ci]? = some r) (hcn : r.1 = y.cls) (hw : (st.map fun v => v.category).sum ≤ 8) (d : decode cc pc = .ok (.invokevirtual idx, 3))
    (kx : ∀ (E : String) (u : S), px E u → XX κ R own cc nL (wf u) (k + mc) (n + ms) pc lv E)
    (kk : ∀ (z : Int) (u : S), post z u → X κ R own cc nL (wf u) (k + mc) (n + ms) (pc + 3) lv (.long (zL z) :: st)) : X κ R own cc nL w k n pc lv (.ref b :: st) := by
  intro C H locs ls hl hP hD hS
  have hf := x_fr C hD hS
  obtain ⟨bytes, ret, hcw⟩ := x_cwX (R := R) C h hR
  refine vx_calll (vx_runV (As := []) (rest := st) ⟨C.hx, C.hb, C.hm, C.ho, C.ht⟩ (hM H.size) hcw (x_preXV C Z hP hD hS hr hc hcn) rfl rfl hl.1 rfl (lv_room hw) d hkn) hS (fun q _ h => hf q h) hf (fun q _ h => hf q h) (fun E ce q9 u t H1 locs1 ht hvm _ hB hz1 hk1 hS1 hce hcv hcl => ?_) (fun r u t H1 locs1 ht hvm hpost hB hz1 hk1 hS1 => ?_)
  · obtain ⟨hpx, hP1, hD1⟩ := hB
    rw [ht] at hP1
    exact kx E u hpx C H1 locs1 ls st q9 ce hl hP1 (hD1.weaken (fun _ q _ h => hf q.1 h)) hS1 hce hcv hcl
  · obtain ⟨z, rfl, hpost⟩ := hpost
    obtain ⟨hP1, hD1⟩ := hB
    rw [ht] at hP1
    exact kk z u hpost C H1 locs1 ls hl hP1 (hD1.weaken (fun _ q _ h => hf q.1 h)) hS1
theorem x_tv0 {S : Type} {post : S → Prop} {px : String → S → Prop} {wf : S → va_W} {y : MethodName} {cw : Cond} {rm : Room} {mc ms idx maxL b j ci : Nat} {fs : List Value} {r : vw_C} (hM : CXV κ.1.2.1 y cw rm mc ms κ.2.2.1.1 κ.2.2.1.2.2 (.ref b :: []) w post px wf) (h : CF own idx y cw maxL 0) (Z : Zx κ) (hR : rm.cells = mc ∧ rm.slots = ms ∧ rm.frames + 1 ≤ R.frames ∧ 8 + (maxL + 11) + rm.locals ≤ R.locals) (hkn : k + mc ≤ R.cells ∧ n + ms ≤ R.slots) (hr : w[j]? = some (b, .inr (ci, fs))) (hc : wcl[ci]? = some r) (hcn : r.1 = y.cls) (hw : (st.map fun v => v.category).sum ≤ 8) (d : decode cc pc = .ok (.invokevirtual idx, 3))
    (kx : ∀ (E : String) (u : S), px E u → XX κ R own cc nL (wf u) (k + mc) (n + ms) pc lv E)
    (kk : ∀ (u : S), post u → X κ R own cc nL (wf u) (k + mc) (n + ms) (pc + 3) lv st) : X κ R own cc nL w k n pc lv (.ref b :: st) := by
  intro C H locs ls hl hP hD hS
  have hf := x_fr C hD hS
  obtain ⟨bytes, ret, hcw⟩ := x_cwX (R := R) C h hR
  refine vx_callv (vx_runV (As := []) (rest := st) ⟨C.hx, C.hb, C.hm, C.ho, C.ht⟩ (hM H.size) hcw (x_preXV C Z hP hD hS hr hc hcn) rfl rfl hl.1 rfl (lv_room hw) d hkn) hS (fun q _ h => hf q h) hf (fun q _ h => hf q h) (fun E ce q9 u t H1 locs1 ht hvm _ hB hz1 hk1 hS1 hce hcv hcl => ?_) (fun u t H1 locs1 ht hvm hpost hB hz1 hk1 hS1 => ?_)
  · obtain ⟨hpx, hP1, hD1⟩ := hB
    rw [ht] at hP1
    exact kx E u hpx C H1 locs1 ls st q9 ce hl hP1 (hD1.weaken (fun _ q _ h => hf q.1 h)) hS1 hce hcv hcl
  · skip
    obtain ⟨hP1, hD1⟩ := hB
    rw [ht] at hP1
    exact kk u hpost C H1 locs1 ls hl hP1 (hD1.weaken (fun _ q _ h => hf q.1 h)) hS1
theorem x_ti1 {S : Type} {post : Int → S → Prop} {px : String → S → Prop} {wf : S → va_W} {y : MethodName} {cw : Cond} {rm : Room} {mc ms idx maxL b j ci : Nat} {fs : List Value} {r : vw_C} {v1 : Value} (hM : CXI κ.1.2.1 y cw rm mc ms κ.2.2.1.1 κ.2.2.1.2.2 (.ref b :: [v1]) w post px wf) (h : CF own idx y cw maxL 1) (Z : Zx κ) (hR : rm.cells = mc ∧ rm.slots = ms ∧ rm.frames + 1 ≤ R.frames ∧ 8 + (maxL + 11) + rm.locals ≤ R.locals) (hkn : k + mc ≤ R.cells ∧ n + ms ≤ R.slots) (hr : w[j]? = some (b, .inr (ci, fs))) (hc : wcl[ci]? = some r) (hcn : r.1 = y.cls) (hw : (st.map fun v => v.category).sum ≤ 8) (d : decode cc pc = .ok (.invokevirtual idx, 3))
    (kx : ∀ (E : String) (u : S), px E u → XX κ R own cc nL (wf u) (k + mc) (n + ms) pc lv E)
    (kk : ∀ (z : Int) (u : S), post z u → X κ R own cc nL (wf u) (k + mc) (n + ms) (pc + 3) lv (.int (zI z) :: st)) : X κ R own cc nL w k n pc lv (v1 :: .ref b :: st) := by
  intro C H locs ls hl hP hD hS
  have hf := x_fr C hD hS
  obtain ⟨bytes, ret, hcw⟩ := x_cwX (R := R) C h hR
  refine vx_calli (vx_runV (As := [v1]) (rest := st) ⟨C.hx, C.hb, C.hm, C.ho, C.ht⟩ (hM H.size) hcw (x_preXV C Z hP hD hS hr hc hcn) rfl rfl hl.1 rfl (lv_room hw) d hkn) hS (fun q _ h => hf q h) hf (fun q _ h => hf q h) (fun E ce q9 u t H1 locs1 ht hvm _ hB hz1 hk1 hS1 hce hcv hcl => ?_) (fun r u t H1 locs1 ht hvm hpost hB hz1 hk1 hS1 => ?_)
  · obtain ⟨hpx, hP1, hD1⟩ := hB
    rw [ht] at hP1
    exact kx E u hpx C H1 locs1 ls st q9 ce hl hP1 (hD1.weaken (fun _ q _ h => hf q.1 h)) hS1 hce hcv hcl
  · obtain ⟨z, rfl, hpost⟩ := hpost
    obtain ⟨hP1, hD1⟩ := hB
    rw [ht] at hP1
    exact kk z u hpost C H1 locs1 ls hl hP1 (hD1.weaken (fun _ q _ h => hf q.1 h)) hS1
theorem x_tl1 {S : Type} {post : Int → S → Prop} {px : String → S → Prop} {wf : S → va_W} {y : MethodName} {cw : Cond} {rm : Room} {mc ms idx maxL b j ci : Nat} {fs : List Value} {r : vw_C} {v1 : Value} (hM : CXL κ.1.2.1 y cw rm mc ms κ.2.2.1.1 κ.2.2.1.2.2 (.ref b :: [v1]) w post px wf) (h : CF own idx y cw maxL 1) (Z : Zx κ) (hR : rm.cells = mc ∧ rm.slots = ms ∧ rm.frames + 1 ≤ R.frames ∧ 8 + (maxL + 11) + rm.locals ≤ R.locals) (hkn : k + mc ≤ R.cells ∧ n + ms ≤ R.slots) (hr : w[j]? = some (b, .inr (ci, fs))) (hc : wcl[ci]? = some r) (hcn : r.1 = y.cls) (hw : (st.map fun v => v.category).sum ≤ 8) (d : decode cc pc = .ok (.invokevirtual idx, 3))
    (kx : ∀ (E : String) (u : S), px E u → XX κ R own cc nL (wf u) (k + mc) (n + ms) pc lv E)
    (kk : ∀ (z : Int) (u : S), post z u → X κ R own cc nL (wf u) (k + mc) (n + ms) (pc + 3) lv (.long (zL z) :: st)) : X κ R own cc nL w k n pc lv (v1 :: .ref b :: st) := by
  intro C H locs ls hl hP hD hS
  have hf := x_fr C hD hS
  obtain ⟨bytes, ret, hcw⟩ := x_cwX (R := R) C h hR
  refine vx_calll (vx_runV (As := [v1]) (rest := st) ⟨C.hx, C.hb, C.hm, C.ho, C.ht⟩ (hM H.size) hcw (x_preXV C Z hP hD hS hr hc hcn) rfl rfl hl.1 rfl (lv_room hw) d hkn) hS (fun q _ h => hf q h) hf (fun q _ h => hf q h) (fun E ce q9 u t H1 locs1 ht hvm _ hB hz1 hk1 hS1 hce hcv hcl => ?_) (fun r u t H1 locs1 ht hvm hpost hB hz1 hk1 hS1 => ?_)
  · obtain ⟨hpx, hP1, hD1⟩ := hB
    rw [ht] at hP1
    exact kx E u hpx C H1 locs1 ls st q9 ce hl hP1 (hD1.weaken (fun _ q _ h => hf q.1 h)) hS1 hce hcv hcl
  · obtain ⟨z, rfl, hpost⟩ := hpost
    obtain ⟨hP1, hD1⟩ := hB
    rw [ht] at hP1
    exact kk z u hpost C H1 locs1 ls hl hP1 (hD1.weaken (fun _ q _ h => hf q.1 h)) hS1
theorem x_tv1 {S : Type} {post : S → Prop} {px : String → S → Prop} {wf : S → va_W} {y : MethodName} {cw : Cond} {rm : Room} {mc ms idx maxL b j ci : Nat} {fs : List Value} {r : vw_C} {v1 : Value} (hM : CXV κ.1.2.1 y cw rm mc ms κ.2.2.1.1 κ.2.2.1.2.2 (.ref b :: [v1]) w post px wf) (h : CF own idx y cw maxL 1) (Z : Zx κ) (hR : rm.cells = mc ∧ rm.slots = ms ∧ rm.frames + 1 ≤ R.frames ∧ 8 + (maxL + 11) + rm.locals ≤ R.locals) (hkn : k + mc ≤ R.cells ∧ n + ms ≤ R.slots) (hr : w[j]? = some (b, .inr (ci, fs))) (hc : wcl[ci]? = some r) (hcn : r.1 = y.cls) (hw : (st.map fun v => v.category).sum ≤ 8) (d : decode cc pc = .ok (.invokevirtual idx, 3))
    (kx : ∀ (E : String) (u : S), px E u → XX κ R own cc nL (wf u) (k + mc) (n + ms) pc lv E)
    (kk : ∀ (u : S), post u → X κ R own cc nL (wf u) (k + mc) (n + ms) (pc + 3) lv st) : X κ R own cc nL w k n pc lv (v1 :: .ref b :: st) := by
  intro C H locs ls hl hP hD hS
  have hf := x_fr C hD hS
  obtain ⟨bytes, ret, hcw⟩ := x_cwX (R := R) C h hR
  refine vx_callv (vx_runV (As := [v1]) (rest := st) ⟨C.hx, C.hb, C.hm, C.ho, C.ht⟩ (hM H.size) hcw (x_preXV C Z hP hD hS hr hc hcn) rfl rfl hl.1 rfl (lv_room hw) d hkn) hS (fun q _ h => hf q h) hf (fun q _ h => hf q h) (fun E ce q9 u t H1 locs1 ht hvm _ hB hz1 hk1 hS1 hce hcv hcl => ?_) (fun u t H1 locs1 ht hvm hpost hB hz1 hk1 hS1 => ?_)
  · obtain ⟨hpx, hP1, hD1⟩ := hB
    rw [ht] at hP1
    exact kx E u hpx C H1 locs1 ls st q9 ce hl hP1 (hD1.weaken (fun _ q _ h => hf q.1 h)) hS1 hce hcv hcl
  · skip
    obtain ⟨hP1, hD1⟩ := hB
    rw [ht] at hP1
    exact kk u hpost C H1 locs1 ls hl hP1 (hD1.weaken (fun _ q _ h => hf q.1 h)) hS1
theorem x_ti2 {S : Type} {post : Int → S → Prop} {px : String → S → Prop} {wf : S → va_W} {y : MethodName} {cw : Cond} {rm : Room} {mc ms idx maxL b j ci : Nat} {fs : List Value} {r : vw_C} {v1 v2 : Value} (hM : CXI κ.1.2.1 y cw rm mc ms κ.2.2.1.1 κ.2.2.1.2.2 (.ref b :: [v1, v2]) w post px wf) (h : CF own idx y cw maxL 2) (Z : Zx κ) (hR : rm.cells = mc ∧ rm.slots = ms ∧ rm.frames + 1 ≤ R.frames ∧ 8 + (maxL + 11) + rm.locals ≤ R.locals) (hkn : k + mc ≤ R.cells ∧ n + ms ≤ R.slots) (hr : w[j]? = some (b, .inr (ci, fs))) (hc : wcl[ci]? = some r) (hcn : r.1 = y.cls) (hw : (st.map fun v => v.category).sum ≤ 8) (d : decode cc pc = .ok (.invokevirtual idx, 3))
    (kx : ∀ (E : String) (u : S), px E u → XX κ R own cc nL (wf u) (k + mc) (n + ms) pc lv E)
    (kk : ∀ (z : Int) (u : S), post z u → X κ R own cc nL (wf u) (k + mc) (n + ms) (pc + 3) lv (.int (zI z) :: st)) : X κ R own cc nL w k n pc lv (v2 :: v1 :: .ref b :: st) := by
  intro C H locs ls hl hP hD hS
  have hf := x_fr C hD hS
  obtain ⟨bytes, ret, hcw⟩ := x_cwX (R := R) C h hR
  refine vx_calli (vx_runV (As := [v1, v2]) (rest := st) ⟨C.hx, C.hb, C.hm, C.ho, C.ht⟩ (hM H.size) hcw (x_preXV C Z hP hD hS hr hc hcn) rfl rfl hl.1 rfl (lv_room hw) d hkn) hS (fun q _ h => hf q h) hf (fun q _ h => hf q h) (fun E ce q9 u t H1 locs1 ht hvm _ hB hz1 hk1 hS1 hce hcv hcl => ?_) (fun r u t H1 locs1 ht hvm hpost hB hz1 hk1 hS1 => ?_)
  · obtain ⟨hpx, hP1, hD1⟩ := hB
    rw [ht] at hP1
    exact kx E u hpx C H1 locs1 ls st q9 ce hl hP1 (hD1.weaken (fun _ q _ h => hf q.1 h)) hS1 hce hcv hcl
  · obtain ⟨z, rfl, hpost⟩ := hpost
    obtain ⟨hP1, hD1⟩ := hB
    rw [ht] at hP1
    exact kk z u hpost C H1 locs1 ls hl hP1 (hD1.weaken (fun _ q _ h => hf q.1 h)) hS1
theorem x_tl2 {S : Type} {post : Int → S → Prop} {px : String → S → Prop} {wf : S → va_W} {y : MethodName} {cw : Cond} {rm : Room} {mc ms idx maxL b j ci : Nat} {fs : List Value} {r : vw_C} {v1 v2 : Value} (hM : CXL κ.1.2.1 y cw rm mc ms κ.2.2.1.1 κ.2.2.1.2.2 (.ref b :: [v1, v2]) w post px wf) (h : CF own idx y cw maxL 2) (Z : Zx κ) (hR : rm.cells = mc ∧ rm.slots = ms ∧ rm.frames + 1 ≤ R.frames ∧ 8 + (maxL + 11) + rm.locals ≤ R.locals) (hkn : k + mc ≤ R.cells ∧ n + ms ≤ R.slots) (hr : w[j]? = some (b, .inr (ci, fs))) (hc : wcl[ci]? = some r) (hcn : r.1 = y.cls) (hw : (st.map fun v => v.category).sum ≤ 8) (d : decode cc pc = .ok (.invokevirtual idx, 3))
    (kx : ∀ (E : String) (u : S), px E u → XX κ R own cc nL (wf u) (k + mc) (n + ms) pc lv E)
    (kk : ∀ (z : Int) (u : S), post z u → X κ R own cc nL (wf u) (k + mc) (n + ms) (pc + 3) lv (.long (zL z) :: st)) : X κ R own cc nL w k n pc lv (v2 :: v1 :: .ref b :: st) := by
  intro C H locs ls hl hP hD hS
  have hf := x_fr C hD hS
  obtain ⟨bytes, ret, hcw⟩ := x_cwX (R := R) C h hR
  refine vx_calll (vx_runV (As := [v1, v2]) (rest := st) ⟨C.hx, C.hb, C.hm, C.ho, C.ht⟩ (hM H.size) hcw (x_preXV C Z hP hD hS hr hc hcn) rfl rfl hl.1 rfl (lv_room hw) d hkn) hS (fun q _ h => hf q h) hf (fun q _ h => hf q h) (fun E ce q9 u t H1 locs1 ht hvm _ hB hz1 hk1 hS1 hce hcv hcl => ?_) (fun r u t H1 locs1 ht hvm hpost hB hz1 hk1 hS1 => ?_)
  · obtain ⟨hpx, hP1, hD1⟩ := hB
    rw [ht] at hP1
    exact kx E u hpx C H1 locs1 ls st q9 ce hl hP1 (hD1.weaken (fun _ q _ h => hf q.1 h)) hS1 hce hcv hcl
  · obtain ⟨z, rfl, hpost⟩ := hpost
    obtain ⟨hP1, hD1⟩ := hB
    rw [ht] at hP1
    exact kk z u hpost C H1 locs1 ls hl hP1 (hD1.weaken (fun _ q _ h => hf q.1 h)) hS1
theorem x_tv2 {S : Type} {post : S → Prop} {px : String → S → Prop} {wf : S → va_W} {y : MethodName} {cw : Cond} {rm : Room} {mc ms idx maxL b j ci : Nat} {fs : List Value} {r : vw_C} {v1 v2 : Value} (hM : CXV κ.1.2.1 y cw rm mc ms κ.2.2.1.1 κ.2.2.1.2.2 (.ref b :: [v1, v2]) w post px wf) (h : CF own idx y cw maxL 2) (Z : Zx κ) (hR : rm.cells = mc ∧ rm.slots = ms ∧ rm.frames + 1 ≤ R.frames ∧ 8 + (maxL + 11) + rm.locals ≤ R.locals) (hkn : k + mc ≤ R.cells ∧ n + ms ≤ R.slots) (hr : w[j]? = some (b, .inr (ci, fs))) (hc : wcl[ci]? = some r) (hcn : r.1 = y.cls) (hw : (st.map fun v => v.category).sum ≤ 8) (d : decode cc pc = .ok (.invokevirtual idx, 3))
    (kx : ∀ (E : String) (u : S), px E u → XX κ R own cc nL (wf u) (k + mc) (n + ms) pc lv E)
    (kk : ∀ (u : S), post u → X κ R own cc nL (wf u) (k + mc) (n + ms) (pc + 3) lv st) : X κ R own cc nL w k n pc lv (v2 :: v1 :: .ref b :: st) := by
  intro C H locs ls hl hP hD hS
  have hf := x_fr C hD hS
  obtain ⟨bytes, ret, hcw⟩ := x_cwX (R := R) C h hR
  refine vx_callv (vx_runV (As := [v1, v2]) (rest := st) ⟨C.hx, C.hb, C.hm, C.ho, C.ht⟩ (hM H.size) hcw (x_preXV C Z hP hD hS hr hc hcn) rfl rfl hl.1 rfl (lv_room hw) d hkn) hS (fun q _ h => hf q h) hf (fun q _ h => hf q h) (fun E ce q9 u t H1 locs1 ht hvm _ hB hz1 hk1 hS1 hce hcv hcl => ?_) (fun u t H1 locs1 ht hvm hpost hB hz1 hk1 hS1 => ?_)
  · obtain ⟨hpx, hP1, hD1⟩ := hB
    rw [ht] at hP1
    exact kx E u hpx C H1 locs1 ls st q9 ce hl hP1 (hD1.weaken (fun _ q _ h => hf q.1 h)) hS1 hce hcv hcl
  · skip
    obtain ⟨hP1, hD1⟩ := hB
    rw [ht] at hP1
    exact kk u hpost C H1 locs1 ls hl hP1 (hD1.weaken (fun _ q _ h => hf q.1 h)) hS1
theorem x_ti3 {S : Type} {post : Int → S → Prop} {px : String → S → Prop} {wf : S → va_W} {y : MethodName} {cw : Cond} {rm : Room} {mc ms idx maxL b j ci : Nat} {fs : List Value} {r : vw_C} {v1 v2 v3 : Value} (hM : CXI κ.1.2.1 y cw rm mc ms κ.2.2.1.1 κ.2.2.1.2.2 (.ref b :: [v1, v2, v3]) w post px wf) (h : CF own idx y cw maxL 3) (Z : Zx κ) (hR : rm.cells = mc ∧ rm.slots = ms ∧ rm.frames + 1 ≤ R.frames ∧ 8 + (maxL + 11) + rm.locals ≤ R.locals) (hkn : k + mc ≤ R.cells ∧ n + ms ≤ R.slots) (hr : w[j]? = some (b, .inr (ci, fs))) (hc : wcl[ci]? = some r) (hcn : r.1 = y.cls) (hw : (st.map fun v => v.category).sum ≤ 8) (d : decode cc pc = .ok (.invokevirtual idx, 3))
    (kx : ∀ (E : String) (u : S), px E u → XX κ R own cc nL (wf u) (k + mc) (n + ms) pc lv E)
    (kk : ∀ (z : Int) (u : S), post z u → X κ R own cc nL (wf u) (k + mc) (n + ms) (pc + 3) lv (.int (zI z) :: st)) : X κ R own cc nL w k n pc lv (v3 :: v2 :: v1 :: .ref b :: st) := by
  intro C H locs ls hl hP hD hS
  have hf := x_fr C hD hS
  obtain ⟨bytes, ret, hcw⟩ := x_cwX (R := R) C h hR
  refine vx_calli (vx_runV (As := [v1, v2, v3]) (rest := st) ⟨C.hx, C.hb, C.hm, C.ho, C.ht⟩ (hM H.size) hcw (x_preXV C Z hP hD hS hr hc hcn) rfl rfl hl.1 rfl (lv_room hw) d hkn) hS (fun q _ h => hf q h) hf (fun q _ h => hf q h) (fun E ce q9 u t H1 locs1 ht hvm _ hB hz1 hk1 hS1 hce hcv hcl => ?_) (fun r u t H1 locs1 ht hvm hpost hB hz1 hk1 hS1 => ?_)
  · obtain ⟨hpx, hP1, hD1⟩ := hB
    rw [ht] at hP1
    exact kx E u hpx C H1 locs1 ls st q9 ce hl hP1 (hD1.weaken (fun _ q _ h => hf q.1 h)) hS1 hce hcv hcl
  · obtain ⟨z, rfl, hpost⟩ := hpost
    obtain ⟨hP1, hD1⟩ := hB
    rw [ht] at hP1
    exact kk z u hpost C H1 locs1 ls hl hP1 (hD1.weaken (fun _ q _ h => hf q.1 h)) hS1
theorem x_tl3 {S : Type} {post : Int → S → Prop} {px : String → S → Prop} {wf : S → va_W} {y : MethodName} {cw : Cond} {rm : Room} {mc ms idx maxL b j ci : Nat} {fs : List Value} {r : vw_C} {v1 v2 v3 : Value} (hM : CXL κ.1.2.1 y cw rm mc ms κ.2.2.1.1 κ.2.2.1.2.2 (.ref b :: [v1, v2, v3]) w post px wf) (h : CF own idx y cw maxL 3) (Z : Zx κ) (hR : rm.cells = mc ∧ rm.slots = ms ∧ rm.frames + 1 ≤ R.frames ∧ 8 + (maxL + 11) + rm.locals ≤ R.locals) (hkn : k + mc ≤ R.cells ∧ n + ms ≤ R.slots) (hr : w[j]? = some (b, .inr (ci, fs))) (hc : wcl[ci]? = some r) (hcn : r.1 = y.cls) (hw : (st.map fun v => v.category).sum ≤ 8) (d : decode cc pc = .ok (.invokevirtual idx, 3))
    (kx : ∀ (E : String) (u : S), px E u → XX κ R own cc nL (wf u) (k + mc) (n + ms) pc lv E)
    (kk : ∀ (z : Int) (u : S), post z u → X κ R own cc nL (wf u) (k + mc) (n + ms) (pc + 3) lv (.long (zL z) :: st)) : X κ R own cc nL w k n pc lv (v3 :: v2 :: v1 :: .ref b :: st) := by
  intro C H locs ls hl hP hD hS
  have hf := x_fr C hD hS
  obtain ⟨bytes, ret, hcw⟩ := x_cwX (R := R) C h hR
  refine vx_calll (vx_runV (As := [v1, v2, v3]) (rest := st) ⟨C.hx, C.hb, C.hm, C.ho, C.ht⟩ (hM H.size) hcw (x_preXV C Z hP hD hS hr hc hcn) rfl rfl hl.1 rfl (lv_room hw) d hkn) hS (fun q _ h => hf q h) hf (fun q _ h => hf q h) (fun E ce q9 u t H1 locs1 ht hvm _ hB hz1 hk1 hS1 hce hcv hcl => ?_) (fun r u t H1 locs1 ht hvm hpost hB hz1 hk1 hS1 => ?_)
  · obtain ⟨hpx, hP1, hD1⟩ := hB
    rw [ht] at hP1
    exact kx E u hpx C H1 locs1 ls st q9 ce hl hP1 (hD1.weaken (fun _ q _ h => hf q.1 h)) hS1 hce hcv hcl
  · obtain ⟨z, rfl, hpost⟩ := hpost
    obtain ⟨hP1, hD1⟩ := hB
    rw [ht] at hP1
    exact kk z u hpost C H1 locs1 ls hl hP1 (hD1.weaken (fun _ q _ h => hf q.1 h)) hS1
theorem x_tv3 {S : Type} {post : S → Prop} {px : String → S → Prop} {wf : S → va_W} {y : MethodName} {cw : Cond} {rm : Room} {mc ms idx maxL b j ci : Nat} {fs : List Value} {r : vw_C} {v1 v2 v3 : Value} (hM : CXV κ.1.2.1 y cw rm mc ms κ.2.2.1.1 κ.2.2.1.2.2 (.ref b :: [v1, v2, v3]) w post px wf) (h : CF own idx y cw maxL 3) (Z : Zx κ) (hR : rm.cells = mc ∧ rm.slots = ms ∧ rm.frames + 1 ≤ R.frames ∧ 8 + (maxL + 11) + rm.locals ≤ R.locals) (hkn : k + mc ≤ R.cells ∧ n + ms ≤ R.slots) (hr : w[j]? = some (b, .inr (ci, fs))) (hc : wcl[ci]? = some r) (hcn : r.1 = y.cls) (hw : (st.map fun v => v.category).sum ≤ 8) (d : decode cc pc = .ok (.invokevirtual idx, 3))
    (kx : ∀ (E : String) (u : S), px E u → XX κ R own cc nL (wf u) (k + mc) (n + ms) pc lv E)
    (kk : ∀ (u : S), post u → X κ R own cc nL (wf u) (k + mc) (n + ms) (pc + 3) lv st) : X κ R own cc nL w k n pc lv (v3 :: v2 :: v1 :: .ref b :: st) := by
  intro C H locs ls hl hP hD hS
  have hf := x_fr C hD hS
  obtain ⟨bytes, ret, hcw⟩ := x_cwX (R := R) C h hR
  refine vx_callv (vx_runV (As := [v1, v2, v3]) (rest := st) ⟨C.hx, C.hb, C.hm, C.ho, C.ht⟩ (hM H.size) hcw (x_preXV C Z hP hD hS hr hc hcn) rfl rfl hl.1 rfl (lv_room hw) d hkn) hS (fun q _ h => hf q h) hf (fun q _ h => hf q h) (fun E ce q9 u t H1 locs1 ht hvm _ hB hz1 hk1 hS1 hce hcv hcl => ?_) (fun u t H1 locs1 ht hvm hpost hB hz1 hk1 hS1 => ?_)
  · obtain ⟨hpx, hP1, hD1⟩ := hB
    rw [ht] at hP1
    exact kx E u hpx C H1 locs1 ls st q9 ce hl hP1 (hD1.weaken (fun _ q _ h => hf q.1 h)) hS1 hce hcv hcl
  · skip
    obtain ⟨hP1, hD1⟩ := hB
    rw [ht] at hP1
    exact kk u hpost C H1 locs1 ls hl hP1 (hD1.weaken (fun _ q _ h => hf q.1 h)) hS1
end XT
theorem tf_T_at_37 : TF rc_T cd_T_at 37 rc_jX := ⟨133, 135, 137, _, ["java/lang/RuntimeException", "java/lang/Exception"], dx_T_at_37, dx_T_at_40, dx_T_at_41, dx_T_at_43, dx_T_at_46, by decide +kernel, by decide +kernel, rfl, kl_T_133, kj_jX, rfl, List.mem_of_getElem? (i := 8) rfl, by decide +kernel, by decide +kernel⟩
theorem tf_T_count_52 : TF rc_T cd_T_count 52 rc_jA := ⟨52, 105, 56, _, ["java/lang/RuntimeException", "java/lang/Exception"], dx_T_count_52, dx_T_count_55, dx_T_count_56, dx_T_count_58, dx_T_count_61, by decide +kernel, by decide +kernel, rfl, kl_T_52, kj_jA, rfl, List.mem_of_getElem? (i := 7) rfl, by decide +kernel, by decide +kernel⟩
theorem tf_T_needNode_11 : TF rc_T cd_T_needNode 11 rc_jA := ⟨52, 69, 56, _, ["java/lang/RuntimeException", "java/lang/Exception"], dx_T_needNode_11, dx_T_needNode_14, dx_T_needNode_15, dx_T_needNode_17, dx_T_needNode_20, by decide +kernel, by decide +kernel, rfl, kl_T_52, kj_jA, rfl, List.mem_of_getElem? (i := 3) rfl, by decide +kernel, by decide +kernel⟩
theorem tf_T_needRoomForNode_10 : TF rc_T cd_T_needRoomForNode 10 rc_jS := ⟨75, 151, 79, _, ["java/lang/RuntimeException", "java/lang/Exception"], dx_T_needRoomForNode_10, dx_T_needRoomForNode_13, dx_T_needRoomForNode_14, dx_T_needRoomForNode_16, dx_T_needRoomForNode_19, by decide +kernel, by decide +kernel, rfl, kl_T_75, kj_jS, rfl, List.mem_of_getElem? (i := 0) rfl, by decide +kernel, by decide +kernel⟩
theorem tf_T_term_10 : TF rc_T cd_T_term 10 rc_jA := ⟨52, 54, 56, _, ["java/lang/RuntimeException", "java/lang/Exception"], dx_T_term_10, dx_T_term_13, dx_T_term_14, dx_T_term_16, dx_T_term_19, by decide +kernel, by decide +kernel, rfl, kl_T_52, kj_jA, rfl, List.mem_of_getElem? (i := 1) rfl, by decide +kernel, by decide +kernel⟩
theorem tf_T_term_30 : TF rc_T cd_T_term 30 rc_jA := ⟨52, 59, 56, _, ["java/lang/RuntimeException", "java/lang/Exception"], dx_T_term_30, dx_T_term_33, dx_T_term_34, dx_T_term_36, dx_T_term_39, by decide +kernel, by decide +kernel, rfl, kl_T_52, kj_jA, rfl, List.mem_of_getElem? (i := 2) rfl, by decide +kernel, by decide +kernel⟩
theorem tf_T_undo_15 : TF rc_T cd_T_undo 15 rc_jA := ⟨52, 92, 56, _, ["java/lang/RuntimeException", "java/lang/Exception"], dx_T_undo_15, dx_T_undo_18, dx_T_undo_19, dx_T_undo_21, dx_T_undo_24, by decide +kernel, by decide +kernel, rfl, kl_T_52, kj_jA, rfl, List.mem_of_getElem? (i := 6) rfl, by decide +kernel, by decide +kernel⟩
theorem tf_T_unify_27 : TF rc_T cd_T_unify 27 rc_jA := ⟨52, 69, 56, _, ["java/lang/RuntimeException", "java/lang/Exception"], dx_T_unify_27, dx_T_unify_30, dx_T_unify_31, dx_T_unify_33, dx_T_unify_36, by decide +kernel, by decide +kernel, rfl, kl_T_52, kj_jA, rfl, List.mem_of_getElem? (i := 3) rfl, by decide +kernel, by decide +kernel⟩
theorem tf_T_unify_52 : TF rc_T cd_T_unify 52 rc_jS := ⟨75, 77, 79, _, ["java/lang/RuntimeException", "java/lang/Exception"], dx_T_unify_52, dx_T_unify_55, dx_T_unify_56, dx_T_unify_58, dx_T_unify_61, by decide +kernel, by decide +kernel, rfl, kl_T_75, kj_jS, rfl, List.mem_of_getElem? (i := 4) rfl, by decide +kernel, by decide +kernel⟩
theorem tf_T_unify_87 : TF rc_T cd_T_unify 87 rc_jS := ⟨75, 87, 79, _, ["java/lang/RuntimeException", "java/lang/Exception"], dx_T_unify_87, dx_T_unify_90, dx_T_unify_91, dx_T_unify_93, dx_T_unify_96, by decide +kernel, by decide +kernel, rfl, kl_T_75, kj_jS, rfl, List.mem_of_getElem? (i := 5) rfl, by decide +kernel, by decide +kernel⟩
