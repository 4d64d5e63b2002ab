/-! contracts: a method over a world w; its answer and the state behind it -/
def isFN : Cond → Bool
  | .fieldLinkNest .. => true
  | .declares _ => true
  | .castable .. => true
  | _ => false
theorem wN_fn : ∀ x ∈ wN, isFN x = true := by decide +kernel
theorem wN_same {x : Cond} (hx : x ∈ wN) {u U : State} (h : u.vm = U.vm) (hZ : va_Nw x u) : va_Nw x U := by
  have h1 := wN_fn x hx
  cases x <;> first | exact va_Nw.same rfl h hZ | (simp [isFN] at h1)
theorem wN_warm {x : Cond} (hx : x ∈ wN) {s U : State} (hW : s.WarmedH U.vm) (hZ : va_Nw x s) : va_Nw x U := by
  have h1 := wN_fn x hx
  cases x <;> first | exact va_Nw.warmF hW hZ | exact va_Nw.warmD hW hZ | exact va_Nw.warmC hW hZ | (simp [isFN] at h1)
theorem wB_all {cw : Cond} (h : cw ∈ wB) : GoodIn wB (cw :: wB) := fun w hw => ⟨wB_ws h w hw, good_of_word (List.mem_filter.mp (wB_ws h w hw)).2⟩
def Pre (D : va_G) (ca : Nat → ClassId) (w : va_W) (sz : Nat) (U : State) : Prop := U.heap.size = sz ∧ va_P D wcl w U.heap ∧ va_K D wcl (wty ca) U ∧ (∀ x ∈ wN, va_Nw x U) ∧ va_D (fun _ => True) w
theorem pre_blind (D : va_G) (ca : Nat → ClassId) (w : va_W) (sz : Nat) (av : List Value) : FrameBlind (va_Pc av (Pre D ca w sz)) := by
  intro a U g mk h
  obtain ⟨h0, h1, hP, hK, hN, hD⟩ := h
  exact ⟨h0, h1, hP, va_K.moved (u := U) (U := U.calling g mk a) (Vm.Alike.refl U.vm) hK, fun x hx => wN_same hx (show U.vm = (U.calling g mk a).vm from rfl) (hN x hx), hD⟩
/-- the room of a method k calls deep -/
def rmk (k : Nat) : Room := { frames := k, cells := 0, slots := 0, locals := 40 * k }
def PB {S : Type} (D : va_G) (w : va_W) (sz : Nat) (wf : S → va_W) (u : S) (t : State) : Prop := va_P D wcl (wf u) t.heap ∧ va_D (va_A w sz) (wf u)
def CI {S : Type} (l : Launch) (y : MethodName) (cw : Cond) (rm : Room) (D : va_G) (ca : Nat → ClassId) (av : List Value) (w : va_W) (post : Int → S → Prop) (wf : S → va_W) : Prop :=
  ∀ sz : Nat, Met l y (cw :: wB) rm (va_Pc av (Pre D ca w sz)) (va_Qi (fun (r : Int32) (u : S) => ∃ z : Int, r = zI z ∧ post z u) (PB D w sz wf) (va_A w sz)) 0 0 (va_A w sz)
def CL {S : Type} (l : Launch) (y : MethodName) (cw : Cond) (rm : Room) (D : va_G) (ca : Nat → ClassId) (av : List Value) (w : va_W) (post : Int → S → Prop) (wf : S → va_W) : Prop :=
  ∀ sz : Nat, Met l y (cw :: wB) rm (va_Pc av (Pre D ca w sz)) (va_Ql (fun (r : Int64) (u : S) => ∃ z : Int, r = zL z ∧ post z u) (PB D w sz wf) (va_A w sz)) 0 0 (va_A w sz)
def CV {S : Type} (l : Launch) (y : MethodName) (cw : Cond) (rm : Room) (D : va_G) (ca : Nat → ClassId) (av : List Value) (w : va_W) (post : S → Prop) (wf : S → va_W) : Prop :=
  ∀ sz : Nat, Met l y (cw :: wB) rm (va_Pc av (Pre D ca w sz)) (va_Qv post (PB D w sz wf) (va_A w sz)) 0 0 (va_A w sz)
def CR {S : Type} (l : Launch) (y : MethodName) (cw : Cond) (rm : Room) (D : va_G) (ca : Nat → ClassId) (av : List Value) (w : va_W) (post : Nat → S → Prop) (wf : S → va_W) : Prop :=
  ∀ sz : Nat, Met l y (cw :: wB) rm (va_Pc av (Pre D ca w sz)) (va_Qr (fun _ : S => True) (fun u a t => post a u ∧ PB D w sz wf u t) (va_A w sz)) 0 0 (va_A w sz)
theorem ci_in {S : Type} {l : Launch} {y : MethodName} {cw : Cond} {rm : Room} {D : va_G} {ca : Nat → ClassId} {av : List Value} {w : va_W} {post : Int → S → Prop} {wf : S → va_W} (own : String) (cc : ByteArray) (nL : Nat) (rt : FieldType) (hcw : cw = Cond.code y cc nL (some rt)) (hown : y.cls = own) (hy : plainName y.cls = true) (hlen : (lg_sl av).length ≤ nL)
    (body : ∀ κ : Kx, κ.1.2.1 = l → κ.2.2.1.1 = D → κ.2.2.1.2.2 = ca → (∀ (z : Int) (u : S) (pc : Nat) (lv : List (Nat × Value)), post z u → narrow rt (.int (zI z)) = .int (zI z) → decode cc pc = .ok (.ireturn, 1) → X κ rm own cc nL (wf u) 0 0 pc lv [.int (zI z)]) → X κ rm own cc nL w 0 0 0 (lv_args 0 av) []) : CI l y cw rm D ca av w post wf := by
  intro sz
  refine Met.ofW (cc := cc) (maxL := nL) (ret := (some rt)) hy (by rw [hcw]) ?_
  intro p e s m args below meth c s₁ B hml hv
  obtain ⟨rfl, hsz, hP, hK, hN, hD0⟩ := hv
  have hts := atoms_spec (ws := cw :: wB) B.pre
  have hown : s.vm.findClass own = some m.cls := hown ▸ findClass_of_methodNamed B.named
  have hlk := B.notSynchronized
  subst hsz
  have hD := hD0.self (sz := s.heap.size)
  have hl := lv_entry av (n := nL) hlen
  rw [lg_entry_eq]
  refine body ((p, l, e, s, m, av.toArray), (below, meth, c), (D, va_A w s.heap.size, ca), MQ below (va_Qi (fun (r : Int32) (u : S) => ∃ z : Int, r = zI z ∧ post z u) (PB D w s.heap.size wf) (va_A w s.heap.size)) av.toArray s 0 0 (va_A w s.heap.size)) rfl rfl rfl ?_ ⟨B.exec, B.bytes, hml, hown, fun x hx => hts x (List.mem_cons_of_mem _ hx), hK, hN, hlk, fun q h => Or.inr h⟩ s.heap [] _ hl hP hD va_S.rf
  intro z u pc lv hpost hnar d C H locs ls hl hP hD hS
  exact W.zret B.exec B.bytes B.returns hnar (fun t ht hW => ⟨⟨zI z, u, rfl, ⟨z, rfl, hpost⟩, by rw [ht]; exact hP, hD⟩, hS.F ht⟩) hS.2.2 d
theorem cl_in {S : Type} {l : Launch} {y : MethodName} {cw : Cond} {rm : Room} {D : va_G} {ca : Nat → ClassId} {av : List Value} {w : va_W} {post : Int → S → Prop} {wf : S → va_W} (own : String) (cc : ByteArray) (nL : Nat) (hcw : cw = Cond.code y cc nL (some .long)) (hown : y.cls = own) (hy : plainName y.cls = true) (hlen : (lg_sl av).length ≤ nL)
    (body : ∀ κ : Kx, κ.1.2.1 = l → κ.2.2.1.1 = D → κ.2.2.1.2.2 = ca → (∀ (z : Int) (u : S) (pc : Nat) (lv : List (Nat × Value)), post z u → decode cc pc = .ok (.lreturn, 1) → X κ rm own cc nL (wf u) 0 0 pc lv [.long (zL z)]) → X κ rm own cc nL w 0 0 0 (lv_args 0 av) []) : CL l y cw rm D ca av w post wf := by
  intro sz
  refine Met.ofW (cc := cc) (maxL := nL) (ret := (some .long)) hy (by rw [hcw]) ?_
  intro p e s m args below meth c s₁ B hml hv
  obtain ⟨rfl, hsz, hP, hK, hN, hD0⟩ := hv
  have hts := atoms_spec (ws := cw :: wB) B.pre
  have hown : s.vm.findClass own = some m.cls := hown ▸ findClass_of_methodNamed B.named
  have hlk := B.notSynchronized
  subst hsz
  have hD := hD0.self (sz := s.heap.size)
  have hl := lv_entry av (n := nL) hlen
  rw [lg_entry_eq]
  refine body ((p, l, e, s, m, av.toArray), (below, meth, c), (D, va_A w s.heap.size, ca), MQ below (va_Ql (fun (r : Int64) (u : S) => ∃ z : Int, r = zL z ∧ post z u) (PB D w s.heap.size wf) (va_A w s.heap.size)) av.toArray s 0 0 (va_A w s.heap.size)) rfl rfl rfl ?_ ⟨B.exec, B.bytes, hml, hown, fun x hx => hts x (List.mem_cons_of_mem _ hx), hK, hN, hlk, fun q h => Or.inr h⟩ s.heap [] _ hl hP hD va_S.rf
  intro z u pc lv hpost d C H locs ls hl hP hD hS
  exact W.lret B.exec B.bytes B.returns (fun t ht hW => ⟨⟨zL z, u, rfl, ⟨z, rfl, hpost⟩, by rw [ht]; exact hP, hD⟩, hS.F ht⟩) hS.2.2 d
theorem cv_in {S : Type} {l : Launch} {y : MethodName} {cw : Cond} {rm : Room} {D : va_G} {ca : Nat → ClassId} {av : List Value} {w : va_W} {post : S → Prop} {wf : S → va_W} (own : String) (cc : ByteArray) (nL : Nat) (hcw : cw = Cond.code y cc nL none) (hown : y.cls = own) (hy : plainName y.cls = true) (hlen : (lg_sl av).length ≤ nL)
    (body : ∀ κ : Kx, κ.1.2.1 = l → κ.2.2.1.1 = D → κ.2.2.1.2.2 = ca → (∀ (u : S) (pc : Nat) (lv : List (Nat × Value)), post u → decode cc pc = .ok (.return_, 1) → X κ rm own cc nL (wf u) 0 0 pc lv []) → X κ rm own cc nL w 0 0 0 (lv_args 0 av) []) : CV l y cw rm D ca av w post wf := by
  intro sz
  refine Met.ofW (cc := cc) (maxL := nL) (ret := none) hy (by rw [hcw]) ?_
  intro p e s m args below meth c s₁ B hml hv
  obtain ⟨rfl, hsz, hP, hK, hN, hD0⟩ := hv
  have hts := atoms_spec (ws := cw :: wB) B.pre
  have hown : s.vm.findClass own = some m.cls := hown ▸ findClass_of_methodNamed B.named
  have hlk := B.notSynchronized
  subst hsz
  have hD := hD0.self (sz := s.heap.size)
  have hl := lv_entry av (n := nL) hlen
  rw [lg_entry_eq]
  refine body ((p, l, e, s, m, av.toArray), (below, meth, c), (D, va_A w s.heap.size, ca), MQ below (va_Qv post (PB D w s.heap.size wf) (va_A w s.heap.size)) av.toArray s 0 0 (va_A w s.heap.size)) rfl rfl rfl ?_ ⟨B.exec, B.bytes, hml, hown, fun x hx => hts x (List.mem_cons_of_mem _ hx), hK, hN, hlk, fun q h => Or.inr h⟩ s.heap [] _ hl hP hD va_S.rf
  intro u pc lv hpost d C H locs ls hl hP hD hS
  exact W.vret B.exec B.bytes B.returns (fun t ht hW => ⟨⟨u, rfl, hpost, by rw [ht]; exact hP, hD⟩, hS.F ht⟩) hS.2.2 d
theorem cr_in {S : Type} {l : Launch} {y : MethodName} {cw : Cond} {rm : Room} {D : va_G} {ca : Nat → ClassId} {av : List Value} {w : va_W} {post : Nat → S → Prop} {wf : S → va_W} (own : String) (cc : ByteArray) (nL : Nat) (rt : FieldType) (hrt : (∃ n, rt = .object n) ∨ ∃ t, rt = .array t) (hcw : cw = Cond.code y cc nL (some rt)) (hown : y.cls = own) (hy : plainName y.cls = true) (hlen : (lg_sl av).length ≤ nL)
    (body : ∀ κ : Kx, κ.1.2.1 = l → κ.2.2.1.1 = D → κ.2.2.1.2.2 = ca → (∀ (a : Nat) (u : S) (pc : Nat) (lv : List (Nat × Value)), post a u → decode cc pc = .ok (.areturn, 1) → X κ rm own cc nL (wf u) 0 0 pc lv [.ref a]) → X κ rm own cc nL w 0 0 0 (lv_args 0 av) []) : CR l y cw rm D ca av w post wf := by
  intro sz
  refine Met.ofW (cc := cc) (maxL := nL) (ret := (some rt)) hy (by rw [hcw]) ?_
  intro p e s m args below meth c s₁ B hml hv
  obtain ⟨rfl, hsz, hP, hK, hN, hD0⟩ := hv
  have hts := atoms_spec (ws := cw :: wB) B.pre
  have hown : s.vm.findClass own = some m.cls := hown ▸ findClass_of_methodNamed B.named
  have hlk := B.notSynchronized
  subst hsz
  have hD := hD0.self (sz := s.heap.size)
  have hl := lv_entry av (n := nL) hlen
  rw [lg_entry_eq]
  refine body ((p, l, e, s, m, av.toArray), (below, meth, c), (D, va_A w s.heap.size, ca), MQ below (va_Qr (fun _ : S => True) (fun u a t => post a u ∧ PB D w s.heap.size wf u t) (va_A w s.heap.size)) av.toArray s 0 0 (va_A w s.heap.size)) rfl rfl rfl ?_ ⟨B.exec, B.bytes, hml, hown, fun x hx => hts x (List.mem_cons_of_mem _ hx), hK, hN, hlk, fun q h => Or.inr h⟩ s.heap [] _ hl hP hD va_S.rf
  intro a u pc lv hpost d C H locs ls hl hP hD hS
  exact W.aret B.exec B.bytes B.returns hrt (Or.inr ⟨a, rfl⟩) (fun t ht hW => ⟨⟨u, a, rfl, trivial, hpost, by rw [ht]; exact hP, hD⟩, hS.F ht⟩) hS.2.2 d
/-- what the tables say of a call: an instance's method (CF), a static one (CS) -/
def CF (own : String) (idx : Nat) (y : MethodName) (cw : Cond) (maxL na : Nat) : Prop := (∃ (bytes : ByteArray) (ret : Option FieldType), cw = Cond.code y bytes maxL ret) ∧ cw ∈ wB ∧ Cond.methodLink own idx y ∈ wB ∧ Cond.instanceMethod y ∈ wB ∧ Cond.selects y.cls y y ∈ wB ∧ Cond.initialized y.cls ∈ wB ∧
  (y.cls ≠ "java/lang/invoke/MethodHandle" ∧ y.cls ≠ "java/lang/invoke/VarHandle" ∧ (parseMethodDescriptor y.desc).map (fun d => d.parameters.length) = some na)
def CS (own : String) (idx : Nat) (y : MethodName) (cw : Cond) (maxL na : Nat) : Prop := (∃ (bytes : ByteArray) (ret : Option FieldType), cw = Cond.code y bytes maxL ret) ∧ cw ∈ wB ∧ Cond.methodLink own idx y ∈ wB ∧ Cond.static y ∈ wB ∧ Cond.initialized y.cls ∈ wB ∧
  (y.cls ≠ "java/lang/invoke/MethodHandle" ∧ y.cls ≠ "java/lang/invoke/VarHandle" ∧ (parseMethodDescriptor y.desc).map (fun d => d.parameters.length) = some na)
section XC
variable {κ : Kx} {R : Room} {own : String} {cc : ByteArray} {nL : Nat} {w : va_W} {k n pc : Nat} {lv : List (Nat × Value)} {st : List Value}
theorem x_fr {H : Heap} {locs : List Loc} (C : Cx κ own cc nL) (hD : va_D κ.2.2.1.2.1 w) (hS : va_S κ.2.2.1.2.1 κ.1.2.2.2.1.heap H locs) : ∀ q, va_A w H.size q → κ.2.2.1.2.1 q := by
  intro q h
  rcases h with ⟨i, e, h⟩ | h
  · exact hD.2 i _ h
  · exact C.hA q (Nat.le_trans hS.1 h)
theorem x_pre {H : Heap} {av : List Value} (C : Cx κ own cc nL) (hP : va_P κ.2.2.1.1 wcl w H) (hD : va_D κ.2.2.1.2.1 w) : PreS κ.1.2.2.2.1 H (va_Pc av (Pre κ.2.2.1.1 κ.2.2.1.2.2 w H.size)) av :=
  ⟨pre_blind _ _ _ _ _, fun U hU hW => ⟨rfl, by rw [hU], by rw [hU]; exact hP, va_K.moved hW.alike C.hK, fun x hx => wN_warm hx hW (C.hN x hx), hD.weaken (fun _ _ _ _ => trivial)⟩⟩
theorem x_preV {H : Heap} {b j ci : Nat} {fs : List Value} {r : vw_C} {Cn : String} {As : List Value} (C : Cx κ own cc nL) (hP : va_P κ.2.2.1.1 wcl w H) (hD : va_D κ.2.2.1.2.1 w) (hr : w[j]? = some (b, .inr (ci, fs))) (hc : wcl[ci]? = some r) (hn : r.1 = Cn) : PreV κ.1.2.2.2.1 H Cn b (va_Pc (.ref b :: As) (Pre κ.2.2.1.1 κ.2.2.1.2.2 w H.size)) As := by
  subst hn
  exact ⟨pre_blind _ _ _ _ _, va_recv C.hK hP hc hr, (x_pre (av := .ref b :: As) C hP hD).2⟩
theorem x_cw {idx maxL na : Nat} {y : MethodName} {cw : Cond} {rm : Room} (C : Cx κ own cc nL) (h : CF own idx y cw maxL na) (hR : rm.cells = 0 ∧ rm.slots = 0 ∧ rm.frames + 1 ≤ R.frames ∧ 8 + (maxL + 11) + rm.locals ≤ R.locals) : ∃ (bytes : ByteArray) (ret : Option FieldType), CallW R κ.1.2.2.2.1 κ.1.2.2.2.2.2 own y.cls idx y bytes maxL ret (cw :: wB) rm 0 0 na := by
  obtain ⟨⟨bytes, ret, h1⟩, h2, h3, h4, h5, h6, h7⟩ := h
  exact ⟨bytes, ret, callB_of na C.ht (wB_all h2) (by rw [h1]) hR.1 hR.2.1 (C.ht _ h6) (C.ht _ h3) h7 ⟨hR.2.2.1, hR.2.2.2⟩, C.ht _ h4, C.ht _ h5⟩
theorem x_cs {idx maxL na : Nat} {y : MethodName} {cw : Cond} {rm : Room} (C : Cx κ own cc nL) (h : CS own idx y cw maxL na) (hR : rm.cells = 0 ∧ rm.slots = 0 ∧ rm.frames + 1 ≤ R.frames ∧ 8 + (maxL + 11) + rm.locals ≤ R.locals) : ∃ (bytes : ByteArray) (ret : Option FieldType), CallB R κ.1.2.2.2.1 κ.1.2.2.2.2.2 own idx y bytes maxL ret (cw :: wB) rm 0 0 na ∧ (Cond.static y).before κ.1.2.2.2.2.2 κ.1.2.2.2.1 = true := by
  obtain ⟨⟨bytes, ret, h1⟩, h2, h3, h4, h6, h7⟩ := h
  exact ⟨bytes, ret, callB_of na C.ht (wB_all h2) (by rw [h1]) hR.1 hR.2.1 (C.ht _ h6) (C.ht _ h3) h7 ⟨hR.2.2.1, hR.2.2.2⟩, C.ht _ h4⟩
theorem x_cvi0 {S : Type} {post : Int → S → Prop} {wf : S → va_W} {y : MethodName} {cw : Cond} {rm : Room} {idx maxL b j ci : Nat} {fs : List Value} {r : vw_C} (hM : CI κ.1.2.1 y cw rm κ.2.2.1.1 κ.2.2.1.2.2 (.ref b :: []) w post wf) (h : CF own idx y cw maxL 0) (hR : rm.cells = 0 ∧ rm.slots = 0 ∧ rm.frames + 1 ≤ R.frames ∧ 8 + (maxL + 11) + rm.locals ≤ R.locals) (hkn : k ≤ R.cells ∧ n ≤ R.slots) (hr : w[j]? = some (b, .inr (ci, fs))) (hc : wcl[ci]? = some r) (hcn : r.1 = y.cls) (hw : (st.map fun v => v.category).sum ≤ 8) (d : decode cc pc = .ok (.invokevirtual idx, 3))
    (kk : ∀ (z : Int) (u : S), post z u → X κ R own cc nL (wf u) k n (pc + 3) lv (.int (zI z) :: st)) : X κ R own cc nL w k n pc lv (.ref b :: st) := by
  intro C H locs ls hl hP hD hS
  have hf := x_fr C hD hS
  obtain ⟨bytes, ret, hcw⟩ := x_cw (R := R) C h hR
  refine va_calli (va_runV (As := []) (rest := st) ⟨C.hx, C.hb, C.hm, C.ho, C.ht⟩ (hM H.size) hcw (x_preV C hP hD hr hc hcn) rfl rfl hl.1 rfl (lv_room hw) d hkn) hS (fun q _ h => hf q h) hf (fun r u t H1 locs1 ht hvm hpost hB hz1 hk1 hS1 => ?_)
  obtain ⟨z, rfl, hpost⟩ := hpost
  obtain ⟨hP1, hD1⟩ := hB
  rw [ht] at hP1
  exact kk z u hpost C H1 locs1 ls hl hP1 (hD1.weaken (fun _ q _ h => hf q.1 h)) hS1
theorem x_cvl0 {S : Type} {post : Int → S → Prop} {wf : S → va_W} {y : MethodName} {cw : Cond} {rm : Room} {idx maxL b j ci : Nat} {fs : List Value} {r : vw_C} (hM : CL κ.1.2.1 y cw rm κ.2.2.1.1 κ.2.2.1.2.2 (.ref b :: []) w post wf) (h : CF own idx y cw maxL 0) (hR : rm.cells = 0 ∧ rm.slots = 0 ∧ rm.frames + 1 ≤ R.frames ∧ 8 + (maxL + 11) + rm.locals ≤ R.locals) (hkn : k ≤ R.cells ∧ n ≤ R.slots) (hr : w[j]? = some (b, .inr (ci, fs))) (hc : wcl[ci]? = some r) (hcn : r.1 = y.cls) (hw : (st.map fun v => v.category).sum ≤ 8) (d : decode cc pc = .ok (.invokevirtual idx, 3))
    (kk : ∀ (z : Int) (u : S), post z u → X κ R own cc nL (wf u) k n (pc + 3) lv (.long (zL z) :: st)) : X κ R own cc nL w k n pc lv (.ref b :: st) := by
  intro C H locs ls hl hP hD hS
  have hf := x_fr C hD hS
  obtain ⟨bytes, ret, hcw⟩ := x_cw (R := R) C h hR
  refine va_calll (va_runV (As := []) (rest := st) ⟨C.hx, C.hb, C.hm, C.ho, C.ht⟩ (hM H.size) hcw (x_preV C hP hD hr hc hcn) rfl rfl hl.1 rfl (lv_room hw) d hkn) hS (fun q _ h => hf q h) hf (fun r u t H1 locs1 ht hvm hpost hB hz1 hk1 hS1 => ?_)
  obtain ⟨z, rfl, hpost⟩ := hpost
  obtain ⟨hP1, hD1⟩ := hB
  rw [ht] at hP1
  exact kk z u hpost C H1 locs1 ls hl hP1 (hD1.weaken (fun _ q _ h => hf q.1 h)) hS1
theorem x_cvv0 {S : Type} {post : S → Prop} {wf : S → va_W} {y : MethodName} {cw : Cond} {rm : Room} {idx maxL b j ci : Nat} {fs : List Value} {r : vw_C} (hM : CV κ.1.2.1 y cw rm κ.2.2.1.1 κ.2.2.1.2.2 (.ref b :: []) w post wf) (h : CF own idx y cw maxL 0) (hR : rm.cells = 0 ∧ rm.slots = 0 ∧ rm.frames + 1 ≤ R.frames ∧ 8 + (maxL + 11) + rm.locals ≤ R.locals) (hkn : k ≤ R.cells ∧ n ≤ R.slots) (hr : w[j]? = some (b, .inr (ci, fs))) (hc : wcl[ci]? = some r) (hcn : r.1 = y.cls) (hw : (st.map fun v => v.category).sum ≤ 8) (d : decode cc pc = .ok (.invokevirtual idx, 3))
    (kk : ∀ (u : S), post u → X κ R own cc nL (wf u) k n (pc + 3) lv st) : X κ R own cc nL w k n pc lv (.ref b :: st) := by
  intro C H locs ls hl hP hD hS
  have hf := x_fr C hD hS
  obtain ⟨bytes, ret, hcw⟩ := x_cw (R := R) C h hR
  refine va_callv (va_runV (As := []) (rest := st) ⟨C.hx, C.hb, C.hm, C.ho, C.ht⟩ (hM H.size) hcw (x_preV C hP hD hr hc hcn) rfl rfl hl.1 rfl (lv_room hw) d hkn) hS (fun q _ h => hf q h) hf (fun u t H1 locs1 ht hvm hpost hB hz1 hk1 hS1 => ?_)
  obtain ⟨hP1, hD1⟩ := hB
  rw [ht] at hP1
  exact kk u hpost C H1 locs1 ls hl hP1 (hD1.weaken (fun _ q _ h => hf q.1 h)) hS1
theorem x_cvr0 {S : Type} {post : Nat → S → Prop} {wf : S → va_W} {y : MethodName} {cw : Cond} {rm : Room} {idx maxL b j ci : Nat} {fs : List Value} {r : vw_C} (hM : CR κ.1.2.1 y cw rm κ.2.2.1.1 κ.2.2.1.2.2 (.ref b :: []) w post wf) (h : CF own idx y cw maxL 0) (hR : rm.cells = 0 ∧ rm.slots = 0 ∧ rm.frames + 1 ≤ R.frames ∧ 8 + (maxL + 11) + rm.locals ≤ R.locals) (hkn : k ≤ R.cells ∧ n ≤ R.slots) (hr : w[j]? = some (b, .inr (ci, fs))) (hc : wcl[ci]? = some r) (hcn : r.1 = y.cls) (hw : (st.map fun v => v.category).sum ≤ 8) (d : decode cc pc = .ok (.invokevirtual idx, 3))
    (kk : ∀ (z : Nat) (u : S), post z u → X κ R own cc nL (wf u) k n (pc + 3) lv (.ref z :: st)) : X κ R own cc nL w k n pc lv (.ref b :: st) := by
  intro C H locs ls hl hP hD hS
  have hf := x_fr C hD hS
  obtain ⟨bytes, ret, hcw⟩ := x_cw (R := R) C h hR
  refine va_callr (va_runV (As := []) (rest := st) ⟨C.hx, C.hb, C.hm, C.ho, C.ht⟩ (hM H.size) hcw (x_preV C hP hD hr hc hcn) rfl rfl hl.1 rfl (lv_room hw) d hkn) hS (fun q _ h => hf q h) hf (fun u z t H1 locs1 ht hvm _ hB hz1 hk1 hS1 => ?_)
  obtain ⟨hpost, hB⟩ := hB
  obtain ⟨hP1, hD1⟩ := hB
  rw [ht] at hP1
  exact kk z u hpost C H1 locs1 ls hl hP1 (hD1.weaken (fun _ q _ h => hf q.1 h)) hS1
theorem x_cvi1 {S : Type} {post : Int → S → Prop} {wf : S → va_W} {y : MethodName} {cw : Cond} {rm : Room} {idx maxL b j ci : Nat} {fs : List Value} {r : vw_C} {v1 : Value} (hM : CI κ.1.2.1 y cw rm κ.2.2.1.1 κ.2.2.1.2.2 (.ref b :: [v1]) w post wf) (h : CF own idx y cw maxL 1) (hR : rm.cells = 0 ∧ rm.slots = 0 ∧ rm.frames + 1 ≤ R.frames ∧ 8 + (maxL + 11) + rm.locals ≤ R.locals) (hkn : k ≤ R.cells ∧ n ≤ R.slots) (hr : w[j]? = some (b, .inr (ci, fs))) (hc : wcl[ci]? = some r) (hcn : r.1 = y.cls) (hw : (st.map fun v => v.category).sum ≤ 8) (d : decode cc pc = .ok (.invokevirtual idx, 3))
    (kk : ∀ (z : Int) (u : S), post z u → X κ R own cc nL (wf u) k n (pc + 3) lv (.int (zI z) :: st)) : X κ R own cc nL w k n pc lv (v1 :: .ref b :: st) := by
  intro C H locs ls hl hP hD hS
  have hf := x_fr C hD hS
  obtain ⟨bytes, ret, hcw⟩ := x_cw (R := R) C h hR
  refine va_calli (va_runV (As := [v1]) (rest := st) ⟨C.hx, C.hb, C.hm, C.ho, C.ht⟩ (hM H.size) hcw (x_preV C hP hD hr hc hcn) rfl rfl hl.1 rfl (lv_room hw) d hkn) hS (fun q _ h => hf q h) hf (fun r u t H1 locs1 ht hvm hpost hB hz1 hk1 hS1 => ?_)
  obtain ⟨z, rfl, hpost⟩ := hpost
  obtain ⟨hP1, hD1⟩ := hB
  rw [ht] at hP1
  exact kk z u hpost C H1 locs1 ls hl hP1 (hD1.weaken (fun _ q _ h => hf q.1 h)) hS1
theorem x_csi1 {S : Type} {post : Int → S → Prop} {wf : S → va_W} {y : MethodName} {cw : Cond} {rm : Room} {idx maxL : Nat} {v1 : Value} (hM : CI κ.1.2.1 y cw rm κ.2.2.1.1 κ.2.2.1.2.2 [v1] w post wf) (h : CS own idx y cw maxL 1) (hR : rm.cells = 0 ∧ rm.slots = 0 ∧ rm.frames + 1 ≤ R.frames ∧ 8 + (maxL + 11) + rm.locals ≤ R.locals) (hkn : k ≤ R.cells ∧ n ≤ R.slots) (hw : (st.map fun v => v.category).sum ≤ 8) (d : decode cc pc = .ok (.invokestatic idx, 3))
    (kk : ∀ (z : Int) (u : S), post z u → X κ R own cc nL (wf u) k n (pc + 3) lv (.int (zI z) :: st)) : X κ R own cc nL w k n pc lv (v1 :: st) := by
  intro C H locs ls hl hP hD hS
  have hf := x_fr C hD hS
  obtain ⟨bytes, ret, hcw⟩ := x_cs (R := R) C h hR
  refine va_calli (va_runS (As := [v1]) (rest := st) ⟨C.hx, C.hb, C.hm, C.ho, C.ht⟩ (hM H.size) hcw (x_pre C hP hD) rfl rfl hl.1 rfl (lv_room hw) d hkn) hS (fun q _ h => hf q h) hf (fun r u t H1 locs1 ht hvm hpost hB hz1 hk1 hS1 => ?_)
  obtain ⟨z, rfl, hpost⟩ := hpost
  obtain ⟨hP1, hD1⟩ := hB
  rw [ht] at hP1
  exact kk z u hpost C H1 locs1 ls hl hP1 (hD1.weaken (fun _ q _ h => hf q.1 h)) hS1
theorem x_cvl1 {S : Type} {post : Int → S → Prop} {wf : S → va_W} {y : MethodName} {cw : Cond} {rm : Room} {idx maxL b j ci : Nat} {fs : List Value} {r : vw_C} {v1 : Value} (hM : CL κ.1.2.1 y cw rm κ.2.2.1.1 κ.2.2.1.2.2 (.ref b :: [v1]) w post wf) (h : CF own idx y cw maxL 1) (hR : rm.cells = 0 ∧ rm.slots = 0 ∧ rm.frames + 1 ≤ R.frames ∧ 8 + (maxL + 11) + rm.locals ≤ R.locals) (hkn : k ≤ R.cells ∧ n ≤ R.slots) (hr : w[j]? = some (b, .inr (ci, fs))) (hc : wcl[ci]? = some r) (hcn : r.1 = y.cls) (hw : (st.map fun v => v.category).sum ≤ 8) (d : decode cc pc = .ok (.invokevirtual idx, 3))
    (kk : ∀ (z : Int) (u : S), post z u → X κ R own cc nL (wf u) k n (pc + 3) lv (.long (zL z) :: st)) : X κ R own cc nL w k n pc lv (v1 :: .ref b :: st) := by
  intro C H locs ls hl hP hD hS
  have hf := x_fr C hD hS
  obtain ⟨bytes, ret, hcw⟩ := x_cw (R := R) C h hR
  refine va_calll (va_runV (As := [v1]) (rest := st) ⟨C.hx, C.hb, C.hm, C.ho, C.ht⟩ (hM H.size) hcw (x_preV C hP hD hr hc hcn) rfl rfl hl.1 rfl (lv_room hw) d hkn) hS (fun q _ h => hf q h) hf (fun r u t H1 locs1 ht hvm hpost hB hz1 hk1 hS1 => ?_)
  obtain ⟨z, rfl, hpost⟩ := hpost
  obtain ⟨hP1, hD1⟩ := hB
  rw [ht] at hP1
  exact kk z u hpost C H1 locs1 ls hl hP1 (hD1.weaken (fun _ q _ h => hf q.1 h)) hS1
theorem x_csl1 {S : Type} {post : Int → S → Prop} {wf : S → va_W} {y : MethodName} {cw : Cond} {rm : Room} {idx maxL : Nat} {v1 : Value} (hM : CL κ.1.2.1 y cw rm κ.2.2.1.1 κ.2.2.1.2.2 [v1] w post wf) (h : CS own idx y cw maxL 1) (hR : rm.cells = 0 ∧ rm.slots = 0 ∧ rm.frames + 1 ≤ R.frames ∧ 8 + (maxL + 11) + rm.locals ≤ R.locals) (hkn : k ≤ R.cells ∧ n ≤ R.slots) (hw : (st.map fun v => v.category).sum ≤ 8) (d : decode cc pc = .ok (.invokestatic idx, 3))
    (kk : ∀ (z : Int) (u : S), post z u → X κ R own cc nL (wf u) k n (pc + 3) lv (.long (zL z) :: st)) : X κ R own cc nL w k n pc lv (v1 :: st) := by
  intro C H locs ls hl hP hD hS
  have hf := x_fr C hD hS
  obtain ⟨bytes, ret, hcw⟩ := x_cs (R := R) C h hR
  refine va_calll (va_runS (As := [v1]) (rest := st) ⟨C.hx, C.hb, C.hm, C.ho, C.ht⟩ (hM H.size) hcw (x_pre C hP hD) rfl rfl hl.1 rfl (lv_room hw) d hkn) hS (fun q _ h => hf q h) hf (fun r u t H1 locs1 ht hvm hpost hB hz1 hk1 hS1 => ?_)
  obtain ⟨z, rfl, hpost⟩ := hpost
  obtain ⟨hP1, hD1⟩ := hB
  rw [ht] at hP1
  exact kk z u hpost C H1 locs1 ls hl hP1 (hD1.weaken (fun _ q _ h => hf q.1 h)) hS1
theorem x_cvv1 {S : Type} {post : S → Prop} {wf : S → va_W} {y : MethodName} {cw : Cond} {rm : Room} {idx maxL b j ci : Nat} {fs : List Value} {r : vw_C} {v1 : Value} (hM : CV κ.1.2.1 y cw rm κ.2.2.1.1 κ.2.2.1.2.2 (.ref b :: [v1]) w post wf) (h : CF own idx y cw maxL 1) (hR : rm.cells = 0 ∧ rm.slots = 0 ∧ rm.frames + 1 ≤ R.frames ∧ 8 + (maxL + 11) + rm.locals ≤ R.locals) (hkn : k ≤ R.cells ∧ n ≤ R.slots) (hr : w[j]? = some (b, .inr (ci, fs))) (hc : wcl[ci]? = some r) (hcn : r.1 = y.cls) (hw : (st.map fun v => v.category).sum ≤ 8) (d : decode cc pc = .ok (.invokevirtual idx, 3))
    (kk : ∀ (u : S), post u → X κ R own cc nL (wf u) k n (pc + 3) lv st) : X κ R own cc nL w k n pc lv (v1 :: .ref b :: st) := by
  intro C H locs ls hl hP hD hS
  have hf := x_fr C hD hS
  obtain ⟨bytes, ret, hcw⟩ := x_cw (R := R) C h hR
  refine va_callv (va_runV (As := [v1]) (rest := st) ⟨C.hx, C.hb, C.hm, C.ho, C.ht⟩ (hM H.size) hcw (x_preV C hP hD hr hc hcn) rfl rfl hl.1 rfl (lv_room hw) d hkn) hS (fun q _ h => hf q h) hf (fun u t H1 locs1 ht hvm hpost hB hz1 hk1 hS1 => ?_)
  obtain ⟨hP1, hD1⟩ := hB
  rw [ht] at hP1
  exact kk u hpost C H1 locs1 ls hl hP1 (hD1.weaken (fun _ q _ h => hf q.1 h)) hS1
theorem x_csv1 {S : Type} {post : S → Prop} {wf : S → va_W} {y : MethodName} {cw : Cond} {rm : Room} {idx maxL : Nat} {v1 : Value} (hM : CV κ.1.2.1 y cw rm κ.2.2.1.1 κ.2.2.1.2.2 [v1] w post wf) (h : CS own idx y cw maxL 1) (hR : rm.cells = 0 ∧ rm.slots = 0 ∧ rm.frames + 1 ≤ R.frames ∧ 8 + (maxL + 11) + rm.locals ≤ R.locals) (hkn : k ≤ R.cells ∧ n ≤ R.slots) (hw : (st.map fun v => v.category).sum ≤ 8) (d : decode cc pc = .ok (.invokestatic idx, 3))
    (kk : ∀ (u : S), post u → X κ R own cc nL (wf u) k n (pc + 3) lv st) : X κ R own cc nL w k n pc lv (v1 :: st) := by
  intro C H locs ls hl hP hD hS
  have hf := x_fr C hD hS
  obtain ⟨bytes, ret, hcw⟩ := x_cs (R := R) C h hR
  refine va_callv (va_runS (As := [v1]) (rest := st) ⟨C.hx, C.hb, C.hm, C.ho, C.ht⟩ (hM H.size) hcw (x_pre C hP hD) rfl rfl hl.1 rfl (lv_room hw) d hkn) hS (fun q _ h => hf q h) hf (fun u t H1 locs1 ht hvm hpost hB hz1 hk1 hS1 => ?_)
  obtain ⟨hP1, hD1⟩ := hB
  rw [ht] at hP1
  exact kk u hpost C H1 locs1 ls hl hP1 (hD1.weaken (fun _ q _ h => hf q.1 h)) hS1
theorem x_cvr1 {S : Type} {post : Nat → S → Prop} {wf : S → va_W} {y : MethodName} {cw : Cond} {rm : Room} {idx maxL b j ci : Nat} {fs : List Value} {r : vw_C} {v1 : Value} (hM : CR κ.1.2.1 y cw rm κ.2.2.1.1 κ.2.2.1.2.2 (.ref b :: [v1]) w post wf) (h : CF own idx y cw maxL 1) (hR : rm.cells = 0 ∧ rm.slots = 0 ∧ rm.frames + 1 ≤ R.frames ∧ 8 + (maxL + 11) + rm.locals ≤ R.locals) (hkn : k ≤ R.cells ∧ n ≤ R.slots) (hr : w[j]? = some (b, .inr (ci, fs))) (hc : wcl[ci]? = some r) (hcn : r.1 = y.cls) (hw : (st.map fun v => v.category).sum ≤ 8) (d : decode cc pc = .ok (.invokevirtual idx, 3))
    (kk : ∀ (z : Nat) (u : S), post z u → X κ R own cc nL (wf u) k n (pc + 3) lv (.ref z :: st)) : X κ R own cc nL w k n pc lv (v1 :: .ref b :: st) := by
  intro C H locs ls hl hP hD hS
  have hf := x_fr C hD hS
  obtain ⟨bytes, ret, hcw⟩ := x_cw (R := R) C h hR
  refine va_callr (va_runV (As := [v1]) (rest := st) ⟨C.hx, C.hb, C.hm, C.ho, C.ht⟩ (hM H.size) hcw (x_preV C hP hD hr hc hcn) rfl rfl hl.1 rfl (lv_room hw) d hkn) hS (fun q _ h => hf q h) hf (fun u z t H1 locs1 ht hvm _ hB hz1 hk1 hS1 => ?_)
  obtain ⟨hpost, hB⟩ := hB
  obtain ⟨hP1, hD1⟩ := hB
  rw [ht] at hP1
  exact kk z u hpost C H1 locs1 ls hl hP1 (hD1.weaken (fun _ q _ h => hf q.1 h)) hS1
theorem x_cvi2 {S : Type} {post : Int → S → Prop} {wf : S → va_W} {y : MethodName} {cw : Cond} {rm : Room} {idx maxL b j ci : Nat} {fs : List Value} {r : vw_C} {v1 v2 : Value} (hM : CI κ.1.2.1 y cw rm κ.2.2.1.1 κ.2.2.1.2.2 (.ref b :: [v1, v2]) w post wf) (h : CF own idx y cw maxL 2) (hR : rm.cells = 0 ∧ rm.slots = 0 ∧ rm.frames + 1 ≤ R.frames ∧ 8 + (maxL + 11) + rm.locals ≤ R.locals) (hkn : k ≤ R.cells ∧ n ≤ R.slots) (hr : w[j]? = some (b, .inr (ci, fs))) (hc : wcl[ci]? = some r) (hcn : r.1 = y.cls) (hw : (st.map fun v => v.category).sum ≤ 8) (d : decode cc pc = .ok (.invokevirtual idx, 3))
    (kk : ∀ (z : Int) (u : S), post z u → X κ R own cc nL (wf u) k n (pc + 3) lv (.int (zI z) :: st)) : X κ R own cc nL w k n pc lv (v2 :: v1 :: .ref b :: st) := by
  intro C H locs ls hl hP hD hS
  have hf := x_fr C hD hS
  obtain ⟨bytes, ret, hcw⟩ := x_cw (R := R) C h hR
  refine va_calli (va_runV (As := [v1, v2]) (rest := st) ⟨C.hx, C.hb, C.hm, C.ho, C.ht⟩ (hM H.size) hcw (x_preV C hP hD hr hc hcn) rfl rfl hl.1 rfl (lv_room hw) d hkn) hS (fun q _ h => hf q h) hf (fun r u t H1 locs1 ht hvm hpost hB hz1 hk1 hS1 => ?_)
  obtain ⟨z, rfl, hpost⟩ := hpost
  obtain ⟨hP1, hD1⟩ := hB
  rw [ht] at hP1
  exact kk z u hpost C H1 locs1 ls hl hP1 (hD1.weaken (fun _ q _ h => hf q.1 h)) hS1
theorem x_csi2 {S : Type} {post : Int → S → Prop} {wf : S → va_W} {y : MethodName} {cw : Cond} {rm : Room} {idx maxL : Nat} {v1 v2 : Value} (hM : CI κ.1.2.1 y cw rm κ.2.2.1.1 κ.2.2.1.2.2 [v1, v2] w post wf) (h : CS own idx y cw maxL 2) (hR : rm.cells = 0 ∧ rm.slots = 0 ∧ rm.frames + 1 ≤ R.frames ∧ 8 + (maxL + 11) + rm.locals ≤ R.locals) (hkn : k ≤ R.cells ∧ n ≤ R.slots) (hw : (st.map fun v => v.category).sum ≤ 8) (d : decode cc pc = .ok (.invokestatic idx, 3))
    (kk : ∀ (z : Int) (u : S), post z u → X κ R own cc nL (wf u) k n (pc + 3) lv (.int (zI z) :: st)) : X κ R own cc nL w k n pc lv (v2 :: v1 :: st) := by
  intro C H locs ls hl hP hD hS
  have hf := x_fr C hD hS
  obtain ⟨bytes, ret, hcw⟩ := x_cs (R := R) C h hR
  refine va_calli (va_runS (As := [v1, v2]) (rest := st) ⟨C.hx, C.hb, C.hm, C.ho, C.ht⟩ (hM H.size) hcw (x_pre C hP hD) rfl rfl hl.1 rfl (lv_room hw) d hkn) hS (fun q _ h => hf q h) hf (fun r u t H1 locs1 ht hvm hpost hB hz1 hk1 hS1 => ?_)
  obtain ⟨z, rfl, hpost⟩ := hpost
  obtain ⟨hP1, hD1⟩ := hB
  rw [ht] at hP1
  exact kk z u hpost C H1 locs1 ls hl hP1 (hD1.weaken (fun _ q _ h => hf q.1 h)) hS1
theorem x_cvl2 {S : Type} {post : Int → S → Prop} {wf : S → va_W} {y : MethodName} {cw : Cond} {rm : Room} {idx maxL b j ci : Nat} {fs : List Value} {r : vw_C} {v1 v2 : Value} (hM : CL κ.1.2.1 y cw rm κ.2.2.1.1 κ.2.2.1.2.2 (.ref b :: [v1, v2]) w post wf) (h : CF own idx y cw maxL 2) (hR : rm.cells = 0 ∧ rm.slots = 0 ∧ rm.frames + 1 ≤ R.frames ∧ 8 + (maxL + 11) + rm.locals ≤ R.locals) (hkn : k ≤ R.cells ∧ n ≤ R.slots) (hr : w[j]? = some (b, .inr (ci, fs))) (hc : wcl[ci]? = some r) (hcn : r.1 = y.cls) (hw : (st.map fun v => v.category).sum ≤ 8) (d : decode cc pc = .ok (.invokevirtual idx, 3))
    (kk : ∀ (z : Int) (u : S), post z u → X κ R own cc nL (wf u) k n (pc + 3) lv (.long (zL z) :: st)) : X κ R own cc nL w k n pc lv (v2 :: v1 :: .ref b :: st) := by
  intro C H locs ls hl hP hD hS
  have hf := x_fr C hD hS
  obtain ⟨bytes, ret, hcw⟩ := x_cw (R := R) C h hR
  refine va_calll (va_runV (As := [v1, v2]) (rest := st) ⟨C.hx, C.hb, C.hm, C.ho, C.ht⟩ (hM H.size) hcw (x_preV C hP hD hr hc hcn) rfl rfl hl.1 rfl (lv_room hw) d hkn) hS (fun q _ h => hf q h) hf (fun r u t H1 locs1 ht hvm hpost hB hz1 hk1 hS1 => ?_)
  obtain ⟨z, rfl, hpost⟩ := hpost
  obtain ⟨hP1, hD1⟩ := hB
  rw [ht] at hP1
  exact kk z u hpost C H1 locs1 ls hl hP1 (hD1.weaken (fun _ q _ h => hf q.1 h)) hS1
theorem x_csl2 {S : Type} {post : Int → S → Prop} {wf : S → va_W} {y : MethodName} {cw : Cond} {rm : Room} {idx maxL : Nat} {v1 v2 : Value} (hM : CL κ.1.2.1 y cw rm κ.2.2.1.1 κ.2.2.1.2.2 [v1, v2] w post wf) (h : CS own idx y cw maxL 2) (hR : rm.cells = 0 ∧ rm.slots = 0 ∧ rm.frames + 1 ≤ R.frames ∧ 8 + (maxL + 11) + rm.locals ≤ R.locals) (hkn : k ≤ R.cells ∧ n ≤ R.slots) (hw : (st.map fun v => v.category).sum ≤ 8) (d : decode cc pc = .ok (.invokestatic idx, 3))
    (kk : ∀ (z : Int) (u : S), post z u → X κ R own cc nL (wf u) k n (pc + 3) lv (.long (zL z) :: st)) : X κ R own cc nL w k n pc lv (v2 :: v1 :: st) := by
  intro C H locs ls hl hP hD hS
  have hf := x_fr C hD hS
  obtain ⟨bytes, ret, hcw⟩ := x_cs (R := R) C h hR
  refine va_calll (va_runS (As := [v1, v2]) (rest := st) ⟨C.hx, C.hb, C.hm, C.ho, C.ht⟩ (hM H.size) hcw (x_pre C hP hD) rfl rfl hl.1 rfl (lv_room hw) d hkn) hS (fun q _ h => hf q h) hf (fun r u t H1 locs1 ht hvm hpost hB hz1 hk1 hS1 => ?_)
  obtain ⟨z, rfl, hpost⟩ := hpost
  obtain ⟨hP1, hD1⟩ := hB
  rw [ht] at hP1
  exact kk z u hpost C H1 locs1 ls hl hP1 (hD1.weaken (fun _ q _ h => hf q.1 h)) hS1
theorem x_cvv2 {S : Type} {post : S → Prop} {wf : S → va_W} {y : MethodName} {cw : Cond} {rm : Room} {idx maxL b j ci : Nat} {fs : List Value} {r : vw_C} {v1 v2 : Value} (hM : CV κ.1.2.1 y cw rm κ.2.2.1.1 κ.2.2.1.2.2 (.ref b :: [v1, v2]) w post wf) (h : CF own idx y cw maxL 2) (hR : rm.cells = 0 ∧ rm.slots = 0 ∧ rm.frames + 1 ≤ R.frames ∧ 8 + (maxL + 11) + rm.locals ≤ R.locals) (hkn : k ≤ R.cells ∧ n ≤ R.slots) (hr : w[j]? = some (b, .inr (ci, fs))) (hc : wcl[ci]? = some r) (hcn : r.1 = y.cls) (hw : (st.map fun v => v.category).sum ≤ 8) (d : decode cc pc = .ok (.invokevirtual idx, 3))
    (kk : ∀ (u : S), post u → X κ R own cc nL (wf u) k n (pc + 3) lv st) : X κ R own cc nL w k n pc lv (v2 :: v1 :: .ref b :: st) := by
  intro C H locs ls hl hP hD hS
  have hf := x_fr C hD hS
  obtain ⟨bytes, ret, hcw⟩ := x_cw (R := R) C h hR
  refine va_callv (va_runV (As := [v1, v2]) (rest := st) ⟨C.hx, C.hb, C.hm, C.ho, C.ht⟩ (hM H.size) hcw (x_preV C hP hD hr hc hcn) rfl rfl hl.1 rfl (lv_room hw) d hkn) hS (fun q _ h => hf q h) hf (fun u t H1 locs1 ht hvm hpost hB hz1 hk1 hS1 => ?_)
  obtain ⟨hP1, hD1⟩ := hB
  rw [ht] at hP1
  exact kk u hpost C H1 locs1 ls hl hP1 (hD1.weaken (fun _ q _ h => hf q.1 h)) hS1
theorem x_csv2 {S : Type} {post : S → Prop} {wf : S → va_W} {y : MethodName} {cw : Cond} {rm : Room} {idx maxL : Nat} {v1 v2 : Value} (hM : CV κ.1.2.1 y cw rm κ.2.2.1.1 κ.2.2.1.2.2 [v1, v2] w post wf) (h : CS own idx y cw maxL 2) (hR : rm.cells = 0 ∧ rm.slots = 0 ∧ rm.frames + 1 ≤ R.frames ∧ 8 + (maxL + 11) + rm.locals ≤ R.locals) (hkn : k ≤ R.cells ∧ n ≤ R.slots) (hw : (st.map fun v => v.category).sum ≤ 8) (d : decode cc pc = .ok (.invokestatic idx, 3))
    (kk : ∀ (u : S), post u → X κ R own cc nL (wf u) k n (pc + 3) lv st) : X κ R own cc nL w k n pc lv (v2 :: v1 :: st) := by
  intro C H locs ls hl hP hD hS
  have hf := x_fr C hD hS
  obtain ⟨bytes, ret, hcw⟩ := x_cs (R := R) C h hR
  refine va_callv (va_runS (As := [v1, v2]) (rest := st) ⟨C.hx, C.hb, C.hm, C.ho, C.ht⟩ (hM H.size) hcw (x_pre C hP hD) rfl rfl hl.1 rfl (lv_room hw) d hkn) hS (fun q _ h => hf q h) hf (fun u t H1 locs1 ht hvm hpost hB hz1 hk1 hS1 => ?_)
  obtain ⟨hP1, hD1⟩ := hB
  rw [ht] at hP1
  exact kk u hpost C H1 locs1 ls hl hP1 (hD1.weaken (fun _ q _ h => hf q.1 h)) hS1
theorem x_cvr2 {S : Type} {post : Nat → S → Prop} {wf : S → va_W} {y : MethodName} {cw : Cond} {rm : Room} {idx maxL b j ci : Nat} {fs : List Value} {r : vw_C} {v1 v2 : Value} (hM : CR κ.1.2.1 y cw rm κ.2.2.1.1 κ.2.2.1.2.2 (.ref b :: [v1, v2]) w post wf) (h : CF own idx y cw maxL 2) (hR : rm.cells = 0 ∧ rm.slots = 0 ∧ rm.frames + 1 ≤ R.frames ∧ 8 + (maxL + 11) + rm.locals ≤ R.locals) (hkn : k ≤ R.cells ∧ n ≤ R.slots) (hr : w[j]? = some (b, .inr (ci, fs))) (hc : wcl[ci]? = some r) (hcn : r.1 = y.cls) (hw : (st.map fun v => v.category).sum ≤ 8) (d : decode cc pc = .ok (.invokevirtual idx, 3))
    (kk : ∀ (z : Nat) (u : S), post z u → X κ R own cc nL (wf u) k n (pc + 3) lv (.ref z :: st)) : X κ R own cc nL w k n pc lv (v2 :: v1 :: .ref b :: st) := by
  intro C H locs ls hl hP hD hS
  have hf := x_fr C hD hS
  obtain ⟨bytes, ret, hcw⟩ := x_cw (R := R) C h hR
  refine va_callr (va_runV (As := [v1, v2]) (rest := st) ⟨C.hx, C.hb, C.hm, C.ho, C.ht⟩ (hM H.size) hcw (x_preV C hP hD hr hc hcn) rfl rfl hl.1 rfl (lv_room hw) d hkn) hS (fun q _ h => hf q h) hf (fun u z t H1 locs1 ht hvm _ hB hz1 hk1 hS1 => ?_)
  obtain ⟨hpost, hB⟩ := hB
  obtain ⟨hP1, hD1⟩ := hB
  rw [ht] at hP1
  exact kk z u hpost C H1 locs1 ls hl hP1 (hD1.weaken (fun _ q _ h => hf q.1 h)) hS1
theorem x_cvi3 {S : Type} {post : Int → S → Prop} {wf : S → va_W} {y : MethodName} {cw : Cond} {rm : Room} {idx maxL b j ci : Nat} {fs : List Value} {r : vw_C} {v1 v2 v3 : Value} (hM : CI κ.1.2.1 y cw rm κ.2.2.1.1 κ.2.2.1.2.2 (.ref b :: [v1, v2, v3]) w post wf) (h : CF own idx y cw maxL 3) (hR : rm.cells = 0 ∧ rm.slots = 0 ∧ rm.frames + 1 ≤ R.frames ∧ 8 + (maxL + 11) + rm.locals ≤ R.locals) (hkn : k ≤ R.cells ∧ n ≤ R.slots) (hr : w[j]? = some (b, .inr (ci, fs))) (hc : wcl[ci]? = some r) (hcn : r.1 = y.cls) (hw : (st.map fun v => v.category).sum ≤ 8) (d : decode cc pc = .ok (.invokevirtual idx, 3))
    (kk : ∀ (z : Int) (u : S), post z u → X κ R own cc nL (wf u) k n (pc + 3) lv (.int (zI z) :: st)) : X κ R own cc nL w k n pc lv (v3 :: v2 :: v1 :: .ref b :: st) := by
  intro C H locs ls hl hP hD hS
  have hf := x_fr C hD hS
  obtain ⟨bytes, ret, hcw⟩ := x_cw (R := R) C h hR
  refine va_calli (va_runV (As := [v1, v2, v3]) (rest := st) ⟨C.hx, C.hb, C.hm, C.ho, C.ht⟩ (hM H.size) hcw (x_preV C hP hD hr hc hcn) rfl rfl hl.1 rfl (lv_room hw) d hkn) hS (fun q _ h => hf q h) hf (fun r u t H1 locs1 ht hvm hpost hB hz1 hk1 hS1 => ?_)
  obtain ⟨z, rfl, hpost⟩ := hpost
  obtain ⟨hP1, hD1⟩ := hB
  rw [ht] at hP1
  exact kk z u hpost C H1 locs1 ls hl hP1 (hD1.weaken (fun _ q _ h => hf q.1 h)) hS1
theorem x_csi3 {S : Type} {post : Int → S → Prop} {wf : S → va_W} {y : MethodName} {cw : Cond} {rm : Room} {idx maxL : Nat} {v1 v2 v3 : Value} (hM : CI κ.1.2.1 y cw rm κ.2.2.1.1 κ.2.2.1.2.2 [v1, v2, v3] w post wf) (h : CS own idx y cw maxL 3) (hR : rm.cells = 0 ∧ rm.slots = 0 ∧ rm.frames + 1 ≤ R.frames ∧ 8 + (maxL + 11) + rm.locals ≤ R.locals) (hkn : k ≤ R.cells ∧ n ≤ R.slots) (hw : (st.map fun v => v.category).sum ≤ 8) (d : decode cc pc = .ok (.invokestatic idx, 3))
    (kk : ∀ (z : Int) (u : S), post z u → X κ R own cc nL (wf u) k n (pc + 3) lv (.int (zI z) :: st)) : X κ R own cc nL w k n pc lv (v3 :: v2 :: v1 :: st) := by
  intro C H locs ls hl hP hD hS
  have hf := x_fr C hD hS
  obtain ⟨bytes, ret, hcw⟩ := x_cs (R := R) C h hR
  refine va_calli (va_runS (As := [v1, v2, v3]) (rest := st) ⟨C.hx, C.hb, C.hm, C.ho, C.ht⟩ (hM H.size) hcw (x_pre C hP hD) rfl rfl hl.1 rfl (lv_room hw) d hkn) hS (fun q _ h => hf q h) hf (fun r u t H1 locs1 ht hvm hpost hB hz1 hk1 hS1 => ?_)
  obtain ⟨z, rfl, hpost⟩ := hpost
  obtain ⟨hP1, hD1⟩ := hB
  rw [ht] at hP1
  exact kk z u hpost C H1 locs1 ls hl hP1 (hD1.weaken (fun _ q _ h => hf q.1 h)) hS1
theorem x_cvl3 {S : Type} {post : Int → S → Prop} {wf : S → va_W} {y : MethodName} {cw : Cond} {rm : Room} {idx maxL b j ci : Nat} {fs : List Value} {r : vw_C} {v1 v2 v3 : Value} (hM : CL κ.1.2.1 y cw rm κ.2.2.1.1 κ.2.2.1.2.2 (.ref b :: [v1, v2, v3]) w post wf) (h : CF own idx y cw maxL 3) (hR : rm.cells = 0 ∧ rm.slots = 0 ∧ rm.frames + 1 ≤ R.frames ∧ 8 + (maxL + 11) + rm.locals ≤ R.locals) (hkn : k ≤ R.cells ∧ n ≤ R.slots) (hr : w[j]? = some (b, .inr (ci, fs))) (hc : wcl[ci]? = some r) (hcn : r.1 = y.cls) (hw : (st.map fun v => v.category).sum ≤ 8) (d : decode cc pc = .ok (.invokevirtual idx, 3))
    (kk : ∀ (z : Int) (u : S), post z u → X κ R own cc nL (wf u) k n (pc + 3) lv (.long (zL z) :: st)) : X κ R own cc nL w k n pc lv (v3 :: v2 :: v1 :: .ref b :: st) := by
  intro C H locs ls hl hP hD hS
  have hf := x_fr C hD hS
  obtain ⟨bytes, ret, hcw⟩ := x_cw (R := R) C h hR
  refine va_calll (va_runV (As := [v1, v2, v3]) (rest := st) ⟨C.hx, C.hb, C.hm, C.ho, C.ht⟩ (hM H.size) hcw (x_preV C hP hD hr hc hcn) rfl rfl hl.1 rfl (lv_room hw) d hkn) hS (fun q _ h => hf q h) hf (fun r u t H1 locs1 ht hvm hpost hB hz1 hk1 hS1 => ?_)
  obtain ⟨z, rfl, hpost⟩ := hpost
  obtain ⟨hP1, hD1⟩ := hB
  rw [ht] at hP1
  exact kk z u hpost C H1 locs1 ls hl hP1 (hD1.weaken (fun _ q _ h => hf q.1 h)) hS1
theorem x_csl3 {S : Type} {post : Int → S → Prop} {wf : S → va_W} {y : MethodName} {cw : Cond} {rm : Room} {idx maxL : Nat} {v1 v2 v3 : Value} (hM : CL κ.1.2.1 y cw rm κ.2.2.1.1 κ.2.2.1.2.2 [v1, v2, v3] w post wf) (h : CS own idx y cw maxL 3) (hR : rm.cells = 0 ∧ rm.slots = 0 ∧ rm.frames + 1 ≤ R.frames ∧ 8 + (maxL + 11) + rm.locals ≤ R.locals) (hkn : k ≤ R.cells ∧ n ≤ R.slots) (hw : (st.map fun v => v.category).sum ≤ 8) (d : decode cc pc = .ok (.invokestatic idx, 3))
    (kk : ∀ (z : Int) (u : S), post z u → X κ R own cc nL (wf u) k n (pc + 3) lv (.long (zL z) :: st)) : X κ R own cc nL w k n pc lv (v3 :: v2 :: v1 :: st) := by
  intro C H locs ls hl hP hD hS
  have hf := x_fr C hD hS
  obtain ⟨bytes, ret, hcw⟩ := x_cs (R := R) C h hR
  refine va_calll (va_runS (As := [v1, v2, v3]) (rest := st) ⟨C.hx, C.hb, C.hm, C.ho, C.ht⟩ (hM H.size) hcw (x_pre C hP hD) rfl rfl hl.1 rfl (lv_room hw) d hkn) hS (fun q _ h => hf q h) hf (fun r u t H1 locs1 ht hvm hpost hB hz1 hk1 hS1 => ?_)
  obtain ⟨z, rfl, hpost⟩ := hpost
  obtain ⟨hP1, hD1⟩ := hB
  rw [ht] at hP1
  exact kk z u hpost C H1 locs1 ls hl hP1 (hD1.weaken (fun _ q _ h => hf q.1 h)) hS1
theorem x_cvv3 {S : Type} {post : S → Prop} {wf : S → va_W} {y : MethodName} {cw : Cond} {rm : Room} {idx maxL b j ci : Nat} {fs : List Value} {r : vw_C} {v1 v2 v3 : Value} (hM : CV κ.1.2.1 y cw rm κ.2.2.1.1 κ.2.2.1.2.2 (.ref b :: [v1, v2, v3]) w post wf) (h : CF own idx y cw maxL 3) (hR : rm.cells = 0 ∧ rm.slots = 0 ∧ rm.frames + 1 ≤ R.frames ∧ 8 + (maxL + 11) + rm.locals ≤ R.locals) (hkn : k ≤ R.cells ∧ n ≤ R.slots) (hr : w[j]? = some (b, .inr (ci, fs))) (hc : wcl[ci]? = some r) (hcn : r.1 = y.cls) (hw : (st.map fun v => v.category).sum ≤ 8) (d : decode cc pc = .ok (.invokevirtual idx, 3))
    (kk : ∀ (u : S), post u → X κ R own cc nL (wf u) k n (pc + 3) lv st) : X κ R own cc nL w k n pc lv (v3 :: v2 :: v1 :: .ref b :: st) := by
  intro C H locs ls hl hP hD hS
  have hf := x_fr C hD hS
  obtain ⟨bytes, ret, hcw⟩ := x_cw (R := R) C h hR
  refine va_callv (va_runV (As := [v1, v2, v3]) (rest := st) ⟨C.hx, C.hb, C.hm, C.ho, C.ht⟩ (hM H.size) hcw (x_preV C hP hD hr hc hcn) rfl rfl hl.1 rfl (lv_room hw) d hkn) hS (fun q _ h => hf q h) hf (fun u t H1 locs1 ht hvm hpost hB hz1 hk1 hS1 => ?_)
  obtain ⟨hP1, hD1⟩ := hB
  rw [ht] at hP1
  exact kk u hpost C H1 locs1 ls hl hP1 (hD1.weaken (fun _ q _ h => hf q.1 h)) hS1
theorem x_csv3 {S : Type} {post : S → Prop} {wf : S → va_W} {y : MethodName} {cw : Cond} {rm : Room} {idx maxL : Nat} {v1 v2 v3 : Value} (hM : CV κ.1.2.1 y cw rm κ.2.2.1.1 κ.2.2.1.2.2 [v1, v2, v3] w post wf) (h : CS own idx y cw maxL 3) (hR : rm.cells = 0 ∧ rm.slots = 0 ∧ rm.frames + 1 ≤ R.frames ∧ 8 + (maxL + 11) + rm.locals ≤ R.locals) (hkn : k ≤ R.cells ∧ n ≤ R.slots) (hw : (st.map fun v => v.category).sum ≤ 8) (d : decode cc pc = .ok (.invokestatic idx, 3))
    (kk : ∀ (u : S), post u → X κ R own cc nL (wf u) k n (pc + 3) lv st) : X κ R own cc nL w k n pc lv (v3 :: v2 :: v1 :: st) := by
  intro C H locs ls hl hP hD hS
  have hf := x_fr C hD hS
  obtain ⟨bytes, ret, hcw⟩ := x_cs (R := R) C h hR
  refine va_callv (va_runS (As := [v1, v2, v3]) (rest := st) ⟨C.hx, C.hb, C.hm, C.ho, C.ht⟩ (hM H.size) hcw (x_pre C hP hD) rfl rfl hl.1 rfl (lv_room hw) d hkn) hS (fun q _ h => hf q h) hf (fun u t H1 locs1 ht hvm hpost hB hz1 hk1 hS1 => ?_)
  obtain ⟨hP1, hD1⟩ := hB
  rw [ht] at hP1
  exact kk u hpost C H1 locs1 ls hl hP1 (hD1.weaken (fun _ q _ h => hf q.1 h)) hS1
theorem x_cvr3 {S : Type} {post : Nat → S → Prop} {wf : S → va_W} {y : MethodName} {cw : Cond} {rm : Room} {idx maxL b j ci : Nat} {fs : List Value} {r : vw_C} {v1 v2 v3 : Value} (hM : CR κ.1.2.1 y cw rm κ.2.2.1.1 κ.2.2.1.2.2 (.ref b :: [v1, v2, v3]) w post wf) (h : CF own idx y cw maxL 3) (hR : rm.cells = 0 ∧ rm.slots = 0 ∧ rm.frames + 1 ≤ R.frames ∧ 8 + (maxL + 11) + rm.locals ≤ R.locals) (hkn : k ≤ R.cells ∧ n ≤ R.slots) (hr : w[j]? = some (b, .inr (ci, fs))) (hc : wcl[ci]? = some r) (hcn : r.1 = y.cls) (hw : (st.map fun v => v.category).sum ≤ 8) (d : decode cc pc = .ok (.invokevirtual idx, 3))
    (kk : ∀ (z : Nat) (u : S), post z u → X κ R own cc nL (wf u) k n (pc + 3) lv (.ref z :: st)) : X κ R own cc nL w k n pc lv (v3 :: v2 :: v1 :: .ref b :: st) := by
  intro C H locs ls hl hP hD hS
  have hf := x_fr C hD hS
  obtain ⟨bytes, ret, hcw⟩ := x_cw (R := R) C h hR
  refine va_callr (va_runV (As := [v1, v2, v3]) (rest := st) ⟨C.hx, C.hb, C.hm, C.ho, C.ht⟩ (hM H.size) hcw (x_preV C hP hD hr hc hcn) rfl rfl hl.1 rfl (lv_room hw) d hkn) hS (fun q _ h => hf q h) hf (fun u z t H1 locs1 ht hvm _ hB hz1 hk1 hS1 => ?_)
  obtain ⟨hpost, hB⟩ := hB
  obtain ⟨hP1, hD1⟩ := hB
  rw [ht] at hP1
  exact kk z u hpost C H1 locs1 ls hl hP1 (hD1.weaken (fun _ q _ h => hf q.1 h)) hS1
theorem x_cvi4 {S : Type} {post : Int → S → Prop} {wf : S → va_W} {y : MethodName} {cw : Cond} {rm : Room} {idx maxL b j ci : Nat} {fs : List Value} {r : vw_C} {v1 v2 v3 v4 : Value} (hM : CI κ.1.2.1 y cw rm κ.2.2.1.1 κ.2.2.1.2.2 (.ref b :: [v1, v2, v3, v4]) w post wf) (h : CF own idx y cw maxL 4) (hR : rm.cells = 0 ∧ rm.slots = 0 ∧ rm.frames + 1 ≤ R.frames ∧ 8 + (maxL + 11) + rm.locals ≤ R.locals) (hkn : k ≤ R.cells ∧ n ≤ R.slots) (hr : w[j]? = some (b, .inr (ci, fs))) (hc : wcl[ci]? = some r) (hcn : r.1 = y.cls) (hw : (st.map fun v => v.category).sum ≤ 8) (d : decode cc pc = .ok (.invokevirtual idx, 3))
    (kk : ∀ (z : Int) (u : S), post z u → X κ R own cc nL (wf u) k n (pc + 3) lv (.int (zI z) :: st)) : X κ R own cc nL w k n pc lv (v4 :: v3 :: v2 :: v1 :: .ref b :: st) := by
  intro C H locs ls hl hP hD hS
  have hf := x_fr C hD hS
  obtain ⟨bytes, ret, hcw⟩ := x_cw (R := R) C h hR
  refine va_calli (va_runV (As := [v1, v2, v3, v4]) (rest := st) ⟨C.hx, C.hb, C.hm, C.ho, C.ht⟩ (hM H.size) hcw (x_preV C hP hD hr hc hcn) rfl rfl hl.1 rfl (lv_room hw) d hkn) hS (fun q _ h => hf q h) hf (fun r u t H1 locs1 ht hvm hpost hB hz1 hk1 hS1 => ?_)
  obtain ⟨z, rfl, hpost⟩ := hpost
  obtain ⟨hP1, hD1⟩ := hB
  rw [ht] at hP1
  exact kk z u hpost C H1 locs1 ls hl hP1 (hD1.weaken (fun _ q _ h => hf q.1 h)) hS1
theorem x_csi4 {S : Type} {post : Int → S → Prop} {wf : S → va_W} {y : MethodName} {cw : Cond} {rm : Room} {idx maxL : Nat} {v1 v2 v3 v4 : Value} (hM : CI κ.1.2.1 y cw rm κ.2.2.1.1 κ.2.2.1.2.2 [v1, v2, v3, v4] w post wf) (h : CS own idx y cw maxL 4) (hR : rm.cells = 0 ∧ rm.slots = 0 ∧ rm.frames + 1 ≤ R.frames ∧ 8 + (maxL + 11) + rm.locals ≤ R.locals) (hkn : k ≤ R.cells ∧ n ≤ R.slots) (hw : (st.map fun v => v.category).sum ≤ 8) (d : decode cc pc = .ok (.invokestatic idx, 3))
    (kk : ∀ (z : Int) (u : S), post z u → X κ R own cc nL (wf u) k n (pc + 3) lv (.int (zI z) :: st)) : X κ R own cc nL w k n pc lv (v4 :: v3 :: v2 :: v1 :: st) := by
  intro C H locs ls hl hP hD hS
  have hf := x_fr C hD hS
  obtain ⟨bytes, ret, hcw⟩ := x_cs (R := R) C h hR
  refine va_calli (va_runS (As := [v1, v2, v3, v4]) (rest := st) ⟨C.hx, C.hb, C.hm, C.ho, C.ht⟩ (hM H.size) hcw (x_pre C hP hD) rfl rfl hl.1 rfl (lv_room hw) d hkn) hS (fun q _ h => hf q h) hf (fun r u t H1 locs1 ht hvm hpost hB hz1 hk1 hS1 => ?_)
  obtain ⟨z, rfl, hpost⟩ := hpost
  obtain ⟨hP1, hD1⟩ := hB
  rw [ht] at hP1
  exact kk z u hpost C H1 locs1 ls hl hP1 (hD1.weaken (fun _ q _ h => hf q.1 h)) hS1
theorem x_cvl4 {S : Type} {post : Int → S → Prop} {wf : S → va_W} {y : MethodName} {cw : Cond} {rm : Room} {idx maxL b j ci : Nat} {fs : List Value} {r : vw_C} {v1 v2 v3 v4 : Value} (hM : CL κ.1.2.1 y cw rm κ.2.2.1.1 κ.2.2.1.2.2 (.ref b :: [v1, v2, v3, v4]) w post wf) (h : CF own idx y cw maxL 4) (hR : rm.cells = 0 ∧ rm.slots = 0 ∧ rm.frames + 1 ≤ R.frames ∧ 8 + (maxL + 11) + rm.locals ≤ R.locals) (hkn : k ≤ R.cells ∧ n ≤ R.slots) (hr : w[j]? = some (b, .inr (ci, fs))) (hc : wcl[ci]? = some r) (hcn : r.1 = y.cls) (hw : (st.map fun v => v.category).sum ≤ 8) (d : decode cc pc = .ok (.invokevirtual idx, 3))
    (kk : ∀ (z : Int) (u : S), post z u → X κ R own cc nL (wf u) k n (pc + 3) lv (.long (zL z) :: st)) : X κ R own cc nL w k n pc lv (v4 :: v3 :: v2 :: v1 :: .ref b :: st) := by
  intro C H locs ls hl hP hD hS
  have hf := x_fr C hD hS
  obtain ⟨bytes, ret, hcw⟩ := x_cw (R := R) C h hR
  refine va_calll (va_runV (As := [v1, v2, v3, v4]) (rest := st) ⟨C.hx, C.hb, C.hm, C.ho, C.ht⟩ (hM H.size) hcw (x_preV C hP hD hr hc hcn) rfl rfl hl.1 rfl (lv_room hw) d hkn) hS (fun q _ h => hf q h) hf (fun r u t H1 locs1 ht hvm hpost hB hz1 hk1 hS1 => ?_)
  obtain ⟨z, rfl, hpost⟩ := hpost
  obtain ⟨hP1, hD1⟩ := hB
  rw [ht] at hP1
  exact kk z u hpost C H1 locs1 ls hl hP1 (hD1.weaken (fun _ q _ h => hf q.1 h)) hS1
theorem x_csl4 {S : Type} {post : Int → S → Prop} {wf : S → va_W} {y : MethodName} {cw : Cond} {rm : Room} {idx maxL : Nat} {v1 v2 v3 v4 : Value} (hM : CL κ.1.2.1 y cw rm κ.2.2.1.1 κ.2.2.1.2.2 [v1, v2, v3, v4] w post wf) (h : CS own idx y cw maxL 4) (hR : rm.cells = 0 ∧ rm.slots = 0 ∧ rm.frames + 1 ≤ R.frames ∧ 8 + (maxL + 11) + rm.locals ≤ R.locals) (hkn : k ≤ R.cells ∧ n ≤ R.slots) (hw : (st.map fun v => v.category).sum ≤ 8) (d : decode cc pc = .ok (.invokestatic idx, 3))
    (kk : ∀ (z : Int) (u : S), post z u → X κ R own cc nL (wf u) k n (pc + 3) lv (.long (zL z) :: st)) : X κ R own cc nL w k n pc lv (v4 :: v3 :: v2 :: v1 :: st) := by
  intro C H locs ls hl hP hD hS
  have hf := x_fr C hD hS
  obtain ⟨bytes, ret, hcw⟩ := x_cs (R := R) C h hR
  refine va_calll (va_runS (As := [v1, v2, v3, v4]) (rest := st) ⟨C.hx, C.hb, C.hm, C.ho, C.ht⟩ (hM H.size) hcw (x_pre C hP hD) rfl rfl hl.1 rfl (lv_room hw) d hkn) hS (fun q _ h => hf q h) hf (fun r u t H1 locs1 ht hvm hpost hB hz1 hk1 hS1 => ?_)
  obtain ⟨z, rfl, hpost⟩ := hpost
  obtain ⟨hP1, hD1⟩ := hB
  rw [ht] at hP1
  exact kk z u hpost C H1 locs1 ls hl hP1 (hD1.weaken (fun _ q _ h => hf q.1 h)) hS1
theorem x_cvv4 {S : Type} {post : S → Prop} {wf : S → va_W} {y : MethodName} {cw : Cond} {rm : Room} {idx maxL b j ci : Nat} {fs : List Value} {r : vw_C} {v1 v2 v3 v4 : Value} (hM : CV κ.1.2.1 y cw rm κ.2.2.1.1 κ.2.2.1.2.2 (.ref b :: [v1, v2, v3, v4]) w post wf) (h : CF own idx y cw maxL 4) (hR : rm.cells = 0 ∧ rm.slots = 0 ∧ rm.frames + 1 ≤ R.frames ∧ 8 + (maxL + 11) + rm.locals ≤ R.locals) (hkn : k ≤ R.cells ∧ n ≤ R.slots) (hr : w[j]? = some (b, .inr (ci, fs))) (hc : wcl[ci]? = some r) (hcn : r.1 = y.cls) (hw : (st.map fun v => v.category).sum ≤ 8) (d : decode cc pc = .ok (.invokevirtual idx, 3))
    (kk : ∀ (u : S), post u → X κ R own cc nL (wf u) k n (pc + 3) lv st) : X κ R own cc nL w k n pc lv (v4 :: v3 :: v2 :: v1 :: .ref b :: st) := by
  intro C H locs ls hl hP hD hS
  have hf := x_fr C hD hS
  obtain ⟨bytes, ret, hcw⟩ := x_cw (R := R) C h hR
  refine va_callv (va_runV (As := [v1, v2, v3, v4]) (rest := st) ⟨C.hx, C.hb, C.hm, C.ho, C.ht⟩ (hM H.size) hcw (x_preV C hP hD hr hc hcn) rfl rfl hl.1 rfl (lv_room hw) d hkn) hS (fun q _ h => hf q h) hf (fun u t H1 locs1 ht hvm hpost hB hz1 hk1 hS1 => ?_)
  obtain ⟨hP1, hD1⟩ := hB
  rw [ht] at hP1
  exact kk u hpost C H1 locs1 ls hl hP1 (hD1.weaken (fun _ q _ h => hf q.1 h)) hS1
theorem x_csv4 {S : Type} {post : S → Prop} {wf : S → va_W} {y : MethodName} {cw : Cond} {rm : Room} {idx maxL : Nat} {v1 v2 v3 v4 : Value} (hM : CV κ.1.2.1 y cw rm κ.2.2.1.1 κ.2.2.1.2.2 [v1, v2, v3, v4] w post wf) (h : CS own idx y cw maxL 4) (hR : rm.cells = 0 ∧ rm.slots = 0 ∧ rm.frames + 1 ≤ R.frames ∧ 8 + (maxL + 11) + rm.locals ≤ R.locals) (hkn : k ≤ R.cells ∧ n ≤ R.slots) (hw : (st.map fun v => v.category).sum ≤ 8) (d : decode cc pc = .ok (.invokestatic idx, 3))
    (kk : ∀ (u : S), post u → X κ R own cc nL (wf u) k n (pc + 3) lv st) : X κ R own cc nL w k n pc lv (v4 :: v3 :: v2 :: v1 :: st) := by
  intro C H locs ls hl hP hD hS
  have hf := x_fr C hD hS
  obtain ⟨bytes, ret, hcw⟩ := x_cs (R := R) C h hR
  refine va_callv (va_runS (As := [v1, v2, v3, v4]) (rest := st) ⟨C.hx, C.hb, C.hm, C.ho, C.ht⟩ (hM H.size) hcw (x_pre C hP hD) rfl rfl hl.1 rfl (lv_room hw) d hkn) hS (fun q _ h => hf q h) hf (fun u t H1 locs1 ht hvm hpost hB hz1 hk1 hS1 => ?_)
  obtain ⟨hP1, hD1⟩ := hB
  rw [ht] at hP1
  exact kk u hpost C H1 locs1 ls hl hP1 (hD1.weaken (fun _ q _ h => hf q.1 h)) hS1
theorem x_cvr4 {S : Type} {post : Nat → S → Prop} {wf : S → va_W} {y : MethodName} {cw : Cond} {rm : Room} {idx maxL b j ci : Nat} {fs : List Value} {r : vw_C} {v1 v2 v3 v4 : Value} (hM : CR κ.1.2.1 y cw rm κ.2.2.1.1 κ.2.2.1.2.2 (.ref b :: [v1, v2, v3, v4]) w post wf) (h : CF own idx y cw maxL 4) (hR : rm.cells = 0 ∧ rm.slots = 0 ∧ rm.frames + 1 ≤ R.frames ∧ 8 + (maxL + 11) + rm.locals ≤ R.locals) (hkn : k ≤ R.cells ∧ n ≤ R.slots) (hr : w[j]? = some (b, .inr (ci, fs))) (hc : wcl[ci]? = some r) (hcn : r.1 = y.cls) (hw : (st.map fun v => v.category).sum ≤ 8) (d : decode cc pc = .ok (.invokevirtual idx, 3))
    (kk : ∀ (z : Nat) (u : S), post z u → X κ R own cc nL (wf u) k n (pc + 3) lv (.ref z :: st)) : X κ R own cc nL w k n pc lv (v4 :: v3 :: v2 :: v1 :: .ref b :: st) := by
  intro C H locs ls hl hP hD hS
  have hf := x_fr C hD hS
  obtain ⟨bytes, ret, hcw⟩ := x_cw (R := R) C h hR
  refine va_callr (va_runV (As := [v1, v2, v3, v4]) (rest := st) ⟨C.hx, C.hb, C.hm, C.ho, C.ht⟩ (hM H.size) hcw (x_preV C hP hD hr hc hcn) rfl rfl hl.1 rfl (lv_room hw) d hkn) hS (fun q _ h => hf q h) hf (fun u z t H1 locs1 ht hvm _ hB hz1 hk1 hS1 => ?_)
  obtain ⟨hpost, hB⟩ := hB
  obtain ⟨hP1, hD1⟩ := hB
  rw [ht] at hP1
  exact kk z u hpost C H1 locs1 ls hl hP1 (hD1.weaken (fun _ q _ h => hf q.1 h)) hS1
end XC
