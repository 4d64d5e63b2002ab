/-! a callee's world among others -/
def amid (wA wB w : va_W) : va_W := wA ++ (w ++ wB)
theorem amid_in {wA wB w : va_W} {k : Nat} {q : Nat × va_E} (h : w[k]? = some q) : (amid wA wB w)[wA.length + k]? = some q := by
  unfold amid
  have hk : k < w.length := (List.getElem?_eq_some_iff.mp h).1
  rw [List.getElem?_append_right (by omega), show wA.length + k - wA.length = k by omega, List.getElem?_append_left hk]
  exact h
theorem amid_A {wA wB w : va_W} {k : Nat} {q : Nat × va_E} (h : wA[k]? = some q) : (amid wA wB w)[k]? = some q := by
  unfold amid
  rw [List.getElem?_append_left (List.getElem?_eq_some_iff.mp h).1]
  exact h
theorem amid_B {wA wB w : va_W} {k : Nat} {q : Nat × va_E} (h : wB[k]? = some q) : (amid wA wB w)[wA.length + w.length + k]? = some q := by
  unfold amid
  rw [List.getElem?_append_right (by omega), List.getElem?_append_right (by omega), show wA.length + w.length + k - wA.length - w.length = k by omega]
  exact h
theorem amid_of {wA wB w : va_W} {k : Nat} {q : Nat × va_E} (h : (amid wA wB w)[k]? = some q) : (k < wA.length ∧ wA[k]? = some q) ∨ (wA.length ≤ k ∧ k < wA.length + w.length ∧ w[k - wA.length]? = some q) ∨ (wA.length + w.length ≤ k ∧ wB[k - wA.length - w.length]? = some q) := by
  unfold amid at h
  by_cases h1 : k < wA.length
  · rw [List.getElem?_append_left h1] at h
    exact Or.inl ⟨h1, h⟩
  · rw [List.getElem?_append_right (by omega)] at h
    by_cases h2 : k - wA.length < w.length
    · rw [List.getElem?_append_left h2] at h
      exact Or.inr (Or.inl ⟨by omega, by omega, h⟩)
    · rw [List.getElem?_append_right (by omega)] at h
      exact Or.inr (Or.inr ⟨by omega, h⟩)
theorem amid_P {D : va_G} {wA wB w : va_W} {H : Heap} (h : va_P D wcl (amid wA wB w) H) : va_P D wcl w H := fun k q hk => h _ q (amid_in hk)
theorem amid_D {A : Nat → Prop} {wA wB w : va_W} (h : va_D A (amid wA wB w)) : va_D A w := ⟨fun i j p q hi hj e => by have := h.1 _ _ p q (amid_in hi) (amid_in hj) e; omega, fun k q hk => h.2 _ q (amid_in hk)⟩
theorem amid_sub {wA wB w : va_W} {sz q : Nat} (h : va_A w sz q) : va_A (amid wA wB w) sz q := by
  rcases h with ⟨k, e, h⟩ | h
  · exact Or.inl ⟨_, e, amid_in h⟩
  · exact Or.inr h
/-- the other cells are apart from the callee's -/
theorem amid_out {D : va_G} {A : Nat → Prop} {wA wB w : va_W} {H : Heap} (hP : va_P D wcl (amid wA wB w) H) (hD : va_D A (amid wA wB w)) {k : Nat} {q : Nat × va_E} (h : (amid wA wB w)[k]? = some q) (hk : k < wA.length ∨ wA.length + w.length ≤ k) : q.1 < H.size ∧ ¬ va_A w H.size q.1 := by
  have hl := (hP k q h).lt
  refine ⟨hl, fun z => ?_⟩
  rcases z with ⟨j, e, z⟩ | z
  · have hj : j < w.length := (List.getElem?_eq_some_iff.mp z).1
    have := hD.1 k _ q (q.1, e) h (amid_in z) rfl
    omega
  · omega
theorem amid_join {D : va_G} {A : Nat → Prop} {wA wB w w1 : va_W} {H H1 : Heap} (hP : va_P D wcl (amid wA wB w) H) (hD : va_D A (amid wA wB w)) (hk : ∀ q : Nat, q < H.size → ¬ va_A w H.size q → H1[q]? = H[q]?) (hF : ∀ q, va_A w H.size q → A q) (hP1 : va_P D wcl w1 H1) (hD1 : va_D (va_A w H.size) w1) : va_P D wcl (amid wA wB w1) H1 ∧ va_D A (amid wA wB w1) := by
  have oldA : ∀ {k : Nat} {q : Nat × va_E}, wA[k]? = some q → q.1 < H.size ∧ ¬ va_A w H.size q.1 := fun h => amid_out hP hD (amid_A h) (Or.inl (List.getElem?_eq_some_iff.mp h).1)
  have oldB : ∀ {k : Nat} {q : Nat × va_E}, wB[k]? = some q → q.1 < H.size ∧ ¬ va_A w H.size q.1 := fun h => amid_out hP hD (amid_B h) (Or.inr (by omega))
  refine ⟨fun k q h => ?_, fun i j p q hi hj e => ?_, fun k q h => ?_⟩
  · rcases amid_of h with ⟨-, h⟩ | ⟨-, -, h⟩ | ⟨-, h⟩
    · exact (hP _ q (amid_A h)).kept (hk _ (oldA h).1 (oldA h).2)
    · exact hP1 _ q h
    · exact (hP _ q (amid_B h)).kept (hk _ (oldB h).1 (oldB h).2)
  · rcases amid_of hi with ⟨i1, hi⟩ | ⟨i1, i2, hi⟩ | ⟨i1, hi⟩ <;> rcases amid_of hj with ⟨j1, hj⟩ | ⟨j1, j2, hj⟩ | ⟨j1, hj⟩
    · exact hD.1 _ _ p q (amid_A hi) (amid_A hj) e
    · exact absurd (by rw [e]; exact hD1.2 _ q hj) (oldA hi).2
    · have := hD.1 _ _ p q (amid_A hi) (amid_B hj) e
      omega
    · exact absurd (by rw [← e]; exact hD1.2 _ p hi) (oldA hj).2
    · have := hD1.1 _ _ p q hi hj e
      omega
    · exact absurd (by rw [← e]; exact hD1.2 _ p hi) (oldB hj).2
    · have := hD.1 _ _ p q (amid_B hi) (amid_A hj) e
      omega
    · exact absurd (by rw [e]; exact hD1.2 _ q hj) (oldB hi).2
    · have := hD.1 _ _ p q (amid_B hi) (amid_B hj) e
      omega
  · rcases amid_of h with ⟨-, h⟩ | ⟨-, -, h⟩ | ⟨-, h⟩
    · exact hD.2 _ q (amid_A h)
    · exact hF _ (hD1.2 _ q h)
    · exact hD.2 _ q (amid_B h)
theorem fr_pre {D : va_G} {ca : Nat → ClassId} {wA wB w : va_W} {sz : Nat} {U : State} (h : Pre D ca (amid wA wB w) sz U) : Pre D ca w sz U := ⟨h.1, amid_P h.2.1, h.2.2.1, h.2.2.2.1, amid_D h.2.2.2.2⟩
theorem fr_pb {S : Type} {D : va_G} {ca : Nat → ClassId} {wA wB w : va_W} {sz : Nat} {wf : S → va_W} {u : S} {st t : State} (hp : Pre D ca (amid wA wB w) sz st) (hF : va_F (va_A w sz) st t) (hB : PB D w sz wf u t) : PB D (amid wA wB w) sz (fun u => amid wA wB (wf u)) u t ∧ va_F (va_A (amid wA wB w) sz) st t := by
  obtain ⟨h1, h2, -, -, h5⟩ := hp
  subst h1
  have j := amid_join (A := va_A (amid wA wB w) st.heap.size) (H1 := t.heap) h2 h5.self hF.2 (fun q hq => amid_sub hq) hB.1 hB.2
  exact ⟨j, hF.1, fun q q1 q2 => hF.2 q q1 (fun z => q2 (amid_sub z))⟩
section FRM
variable {S : Type} {l : Launch} {y : MethodName} {cw : Cond} {rm : Room} {mc ms : Nat} {D : va_G} {ca : Nat → ClassId} {av : List Value} {w : va_W} {wf : S → va_W} {px : String → S → Prop}
theorem fr_ci {post : Int → S → Prop} (wA wB : va_W) (h : CI l y cw rm D ca av w post wf) : CI l y cw rm D ca av (amid wA wB w) post (fun u => amid wA wB (wf u)) := fun sz =>
  MetFree.mono (h sz) (fun _ _ hp => ⟨hp.1, fr_pre hp.2⟩) (fun _ _ _ _ _ q => q) (fun _ st o t hp hq => by
    obtain ⟨⟨⟨r, u, e1, e2, e3⟩, f⟩, L, fe, fl⟩ := hq
    obtain ⟨g1, g2⟩ := fr_pb hp.2 f e3
    exact ⟨⟨⟨r, u, e1, e2, g1⟩, g2⟩, L, fe, fun q hq => amid_sub (fl q hq)⟩)
theorem fr_cl {post : Int → S → Prop} (wA wB : va_W) (h : CL l y cw rm D ca av w post wf) : CL l y cw rm D ca av (amid wA wB w) post (fun u => amid wA wB (wf u)) := fun sz =>
  MetFree.mono (h sz) (fun _ _ hp => ⟨hp.1, fr_pre hp.2⟩) (fun _ _ _ _ _ q => q) (fun _ st o t hp hq => by
    obtain ⟨⟨⟨r, u, e1, e2, e3⟩, f⟩, L, fe, fl⟩ := hq
    obtain ⟨g1, g2⟩ := fr_pb hp.2 f e3
    exact ⟨⟨⟨r, u, e1, e2, g1⟩, g2⟩, L, fe, fun q hq => amid_sub (fl q hq)⟩)
theorem fr_preX {wA wB : va_W} {sz : Nat} {U : State} (h : PreX l D ca (amid wA wB w) sz U) : PreX l D ca w sz U := ⟨h.1, fr_pre h.2.1, h.2.2.1, h.2.2.2.1.narrow (fun _ q => amid_sub q), h.2.2.2.2.narrow (fun _ q => amid_sub q)⟩
theorem fr_x {wA wB : va_W} {sz : Nat} {st t : State} {q : Addr} (hp : Pre D ca (amid wA wB w) sz st) (h : vx_T (XQ D w sz wf px) st q t mc ms (va_A w sz)) : vx_T (XQ D (amid wA wB w) sz (fun u => amid wA wB (wf u)) px) st q t mc ms (va_A (amid wA wB w) sz) := by
  obtain ⟨E, ce, L, ⟨u, -, ⟨h1, h2⟩, h3⟩, h4, h5, h6, h7, h8, h9⟩ := h
  obtain ⟨g1, g2⟩ := fr_pb hp h3 h2
  exact ⟨E, ce, L, ⟨u, trivial, ⟨h1, g1⟩, g2⟩, h4, h5, h6, h7, h8, fun z hz => amid_sub (h9 z hz)⟩
theorem fr_cxi {post : Int → S → Prop} (wA wB : va_W) (h : CXI l y cw rm mc ms D ca av w post px wf) : CXI l y cw rm mc ms D ca av (amid wA wB w) post px (fun u => amid wA wB (wf u)) := fun sz =>
  MetFree.mono (h sz) (fun _ _ hp => ⟨hp.1, fr_preX hp.2⟩) (fun _ _ _ _ _ q => q) (fun _ st o t hp hq => by
    rcases hq with ⟨⟨⟨r, u, e1, e2, e3⟩, f⟩, L, fe, fl⟩ | ⟨q, e, hx⟩
    · obtain ⟨g1, g2⟩ := fr_pb hp.2.2.1 f e3
      exact Or.inl ⟨⟨⟨r, u, e1, e2, g1⟩, g2⟩, L, fe, fun q hq => amid_sub (fl q hq)⟩
    · exact Or.inr ⟨q, e, fr_x hp.2.2.1 hx⟩)
theorem fr_cxl {post : Int → S → Prop} (wA wB : va_W) (h : CXL l y cw rm mc ms D ca av w post px wf) : CXL l y cw rm mc ms D ca av (amid wA wB w) post px (fun u => amid wA wB (wf u)) := fun sz =>
  MetFree.mono (h sz) (fun _ _ hp => ⟨hp.1, fr_preX hp.2⟩) (fun _ _ _ _ _ q => q) (fun _ st o t hp hq => by
    rcases hq with ⟨⟨⟨r, u, e1, e2, e3⟩, f⟩, L, fe, fl⟩ | ⟨q, e, hx⟩
    · obtain ⟨g1, g2⟩ := fr_pb hp.2.2.1 f e3
      exact Or.inl ⟨⟨⟨r, u, e1, e2, g1⟩, g2⟩, L, fe, fun q hq => amid_sub (fl q hq)⟩
    · exact Or.inr ⟨q, e, fr_x hp.2.2.1 hx⟩)
/-- an array class over array classes is there -/
def aoA (ty : FieldType) (U : State) : Prop := (Cond.arrayOver (.array ty)).before #[] U = true
theorem aoA_moved {ty : FieldType} {u U : State} (hvm : u.vm.Alike U.vm) (h : aoA ty u) : aoA ty U := arrayOver_alikeB hvm h
def AO (U : State) : Prop := aoA .int U ∧ aoA .long U
theorem AO.moved {u U : State} (hvm : u.vm.Alike U.vm) (h : AO u) : AO U := ⟨aoA_moved hvm h.1, aoA_moved hvm h.2⟩
def PreC (D : va_G) (ca : Nat → ClassId) (w : va_W) (sz : Nat) (U : State) : Prop := Pre D ca w sz U ∧ AO U
theorem preC_blind (D : va_G) (ca : Nat → ClassId) (w : va_W) (sz : Nat) (av : List Value) : FrameBlind (va_Pc av (PreC D ca w sz)) := by
  intro a U g mk h
  exact ⟨h.1, (pre_blind D ca w sz av a U g mk ⟨h.1, h.2.1⟩).2, AO.moved (u := U) (U := U.calling g mk a) (Vm.Alike.refl U.vm) h.2.2⟩
/-- constructors: they make mc cells of ms places -/
def CC (l : Launch) (y : MethodName) (cw : Cond) (rm : Room) (mc ms : Nat) (D : va_G) (ca : Nat → ClassId) (av : List Value) (w : va_W) (post : S → Prop) (wf : S → va_W) : Prop :=
  ∀ sz : Nat, Met l y (cw :: wB) rm (va_Pc av (PreC D ca w sz)) (va_Qv post (PB D w sz wf) (va_A w sz)) mc ms (va_A w sz)
theorem fr_cc {post : S → Prop} (wA wB9 : va_W) (h : CC l y cw rm mc ms D ca av w post wf) : CC l y cw rm mc ms D ca av (amid wA wB9 w) post (fun u => amid wA wB9 (wf u)) := fun sz =>
  MetFree.mono (h sz) (fun _ _ hp => ⟨hp.1, fr_pre hp.2.1, hp.2.2⟩) (fun _ _ _ _ _ q => q) (fun _ st o t hp hq => by
    obtain ⟨⟨⟨u, e1, e2, e3⟩, f⟩, L, fe, fl⟩ := hq
    obtain ⟨g1, g2⟩ := fr_pb hp.2.1 f e3
    exact ⟨⟨⟨u, e1, e2, g1⟩, g2⟩, L, fe, fun q hq => amid_sub (fl q hq)⟩)
theorem cc_in {post : S → Prop} (own : String) (cc : ByteArray) (nL : Nat) (hcw : cw = Cond.code y cc nL none) (hown : y.cls = own) (hy : plainName y.cls = true) (hnm : y.name = "<init>") (hlen : (lg_sl av).length ≤ nL)
    (body : ∀ κ : Kx, κ.1.2.1 = l → κ.2.2.1.1 = D → κ.2.2.1.2.2 = ca → κ.2.1.2.1.name = "<init>" → AO κ.1.2.2.2.1 → (∀ (u : S) (pc : Nat) (lv : List (Nat × Value)), post u → decode cc pc = .ok (.return_, 1) → X κ rm own cc nL (wf u) mc ms pc lv []) → X κ rm own cc nL w 0 0 0 (lv_args 0 av) []) : CC l y cw rm mc ms D ca av w post wf := by
  intro sz
  refine Met.ofW (cc := cc) (maxL := nL) (ret := none) hy (by rw [hcw]) ?_
  intro p e s m args below meth c s₁ B hml hv
  obtain ⟨rfl, ⟨hsz, hP, hK, hN, hD0⟩, hAO⟩ := hv
  have hts := atoms_spec (ws := cw :: wB) B.pre
  have hown : s.vm.findClass own = some m.cls := hown ▸ findClass_of_methodNamed B.named
  have hlk := B.notSynchronized
  subst hsz
  have hD := hD0.self (sz := s.heap.size)
  have hl := lv_entry av (n := nL) hlen
  rw [lg_entry_eq]
  refine body ((p, l, e, s, m, av.toArray), (below, meth, c), (D, va_A w s.heap.size, ca), MQ below (va_Qv post (PB D w s.heap.size wf) (va_A w s.heap.size)) av.toArray s mc ms (va_A w s.heap.size)) rfl rfl rfl ((name_of_methodNamed B.named B.method).1.trans hnm) hAO ?_ ⟨B.exec, B.bytes, hml, hown, fun x hx => hts x (List.mem_cons_of_mem _ hx), hK, hN, hlk, fun q h => Or.inr h⟩ s.heap [] _ hl hP hD va_S.rf
  intro u pc lv hpost d C H locs ls hl hP hD hS
  exact W.vret B.exec B.bytes B.returns (fun t ht hW => ⟨⟨u, rfl, hpost, by rw [ht]; exact hP, hD⟩, hS.F ht⟩) hS.2.2 d
end FRM
