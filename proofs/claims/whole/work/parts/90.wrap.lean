/-! the law's small methods: one call of the class, its exceptions caught -/
def sI (z : Int) : Int := (zI z).toInt
theorem sI_rg (z : Int) : Rg (sI z) := ⟨Int32.le_toInt (zI z), by have := Int32.toInt_lt (zI z); unfold sI; omega⟩
theorem zI_sI (z : Int) : zI (sI z) = zI z := by
  rw [← Int32.toInt_inj, zI_toInt (sI_rg z)]
  rfl
theorem sI_id {z : Int} (h : Rg z) : sI z = z := zI_toInt h
def NC (U : State) : Prop := va_Nc rc_jS rc_jA U ∧ va_Nc rc_jX rc_jA U
theorem NC.moved {u U : State} (hvm : u.vm.Alike U.vm) (h : NC u) : NC U := ⟨va_Nc.moved hvm h.1, va_Nc.moved hvm h.2⟩
def PreW (l : Launch) (D : va_G) (ca : Nat → ClassId) (w : va_W) (sz : Nat) (U : State) : Prop := PreX l D ca w sz U ∧ NC U
theorem preW_blind (l : Launch) (D : va_G) (ca : Nat → ClassId) (w : va_W) (sz : Nat) (av : List Value) : FrameBlind (va_Pc av (PreW l D ca w sz)) := by
  intro a U g mk h
  exact ⟨h.1, (preX_blind l D ca w sz av a U g mk ⟨h.1, h.2.1⟩).2, NC.moved (u := U) (U := U.calling g mk a) (Vm.Alike.refl U.vm) h.2.2⟩
def CHn {S : Type} (l : Launch) (y : MethodName) (cw : Cond) (rm : Room) (mc ms : Nat) (D : va_G) (ca : Nat → ClassId) (av : List Value) (w : va_W) (post : Int → S → Prop) (wf : S → va_W) : Prop :=
  ∀ sz : Nat, vx_Met l y (cw :: wB) rm (va_Pc av (PreW l D ca w sz)) (va_Qi (fun (r : Int32) (u : S) => ∃ z : Int, r = zI z ∧ post z u) (PB D w sz wf) (va_A w sz)) (XQ D w sz wf (fun _ _ => False)) mc ms (va_A w sz)
theorem cw_in {S : Type} {l : Launch} {y : MethodName} {cw : Cond} {rm : Room} {mc ms : Nat} {D : va_G} {ca : Nat → ClassId} {av : List Value} {w : va_W} {post : Int → S → Prop} {wf : S → va_W} (cc : ByteArray) (nL : Nat) (hh : List (Nat × Nat × Nat × Nat)) (hcw : cw = Cond.codeWith y cc nL (some .int) hh) (hown : y.cls = rc_L) (hy : plainName y.cls = true) (hlen : (lg_sl av).length ≤ nL)
    (body : ∀ κ : Kx, κ.1.2.1 = l → κ.2.2.1.1 = D → κ.2.2.1.2.2 = ca → Zx κ → NC κ.1.2.2.2.1 → κ.2.1.2.2.exceptionTable.toList = tableOf hh → (∀ (k n : Nat) (z : Int) (u : S) (pc : Nat) (lv : List (Nat × Value)), k ≤ mc → n ≤ ms → post z u → decode cc pc = .ok (.ireturn, 1) → X κ rm rc_L cc nL (wf u) k n pc lv [.int (zI z)]) → X κ rm rc_L cc nL w 0 0 0 (lv_args 0 av) []) : CHn l y cw rm mc ms D ca av w post wf := by
  intro sz
  refine vx_ofWH (cc := cc) (maxL := nL) (ret := (some .int)) (hh := hh) hy (by rw [hcw]) ?_
  intro p e s m args below meth c s₁ B hml hv
  obtain ⟨rfl, ⟨hl0, ⟨hsz, hP, hK, hN, hD0⟩, hrs, hzs⟩, hNC⟩ := hv
  have hts := atoms_spec (ws := cw :: wB) B.pre
  have htab : c.exceptionTable.toList = tableOf hh := vx_table (x := y) B (hcw ▸ hts cw List.mem_cons_self)
  have hown : s.vm.findClass rc_L = some m.cls := hown ▸ findClass_of_methodNamed B.named
  have hlk := B.notSynchronized
  subst hsz
  have hD := hD0.self (sz := s.heap.size)
  have hl := lv_entry av (n := nL) hlen
  rw [lg_entry_eq]
  refine body ((p, l, e, s, m, av.toArray), (below, meth, c), (D, va_A w s.heap.size, ca), vx_MQ below (va_Qi (fun (r : Int32) (u : S) => ∃ z : Int, r = zI z ∧ post z u) (PB D w s.heap.size wf) (va_A w s.heap.size)) (XQ D w s.heap.size wf (fun _ _ => False)) av.toArray s mc ms (va_A w s.heap.size)) rfl rfl rfl ⟨hl0, hrs, hzs⟩ hNC htab ?_ ⟨B.exec, B.bytes, hml, hown, fun x hx => hts x (List.mem_cons_of_mem _ hx), hK, hN, hlk, fun q h => Or.inr h⟩ s.heap [] _ hl hP hD va_S.rf
  intro k n z u pc lv hk hn hpost d C H locs ls hl hP hD hS
  refine vx_ret (W.widen hk hn ?_)
  exact W.zret B.exec B.bytes B.returns rfl (fun t ht hW => ⟨⟨zI z, u, rfl, ⟨z, rfl, hpost⟩, by rw [ht]; exact hP, hD⟩, hS.F ht⟩) hS.2.2 d
/-- what the tables say of a static call of a method with handlers -/
def SWF (own : String) (idx : Nat) (y : MethodName) (cw : Cond) (maxL na : Nat) : Prop := (∃ (bytes : ByteArray) (ret : Option FieldType) (hh : List (Nat × Nat × Nat × Nat)), cw = Cond.codeWith y bytes maxL ret hh) ∧ cw ∈ wB ∧ Cond.methodLink own idx y ∈ wB ∧ Cond.static y ∈ wB ∧ Cond.initialized y.cls ∈ wB ∧
  (y.cls ≠ "java/lang/invoke/MethodHandle" ∧ y.cls ≠ "java/lang/invoke/VarHandle" ∧ (parseMethodDescriptor y.desc).map (fun d => d.parameters.length) = some na)
section XWR
variable {κ : Kx} {R : Room} {own : String} {cc : ByteArray} {nL : Nat} {w : va_W} {k n pc : Nat} {lv : List (Nat × Value)} {st : List Value}
theorem x_preW {H : Heap} {locs : List Loc} {av : List Value} (C : Cx κ own cc nL) (Z : Zx κ) (hNC : NC κ.1.2.2.2.1) (hP : va_P κ.2.2.1.1 wcl w H) (hD : va_D κ.2.2.1.2.1 w) (hS : va_S κ.2.2.1.2.1 κ.1.2.2.2.1.heap H locs) : PreS κ.1.2.2.2.1 H (va_Pc av (PreW κ.1.2.1 κ.2.2.1.1 κ.2.2.1.2.2 w H.size)) av :=
  ⟨preW_blind _ _ _ _ _ _, fun U hU hW => ⟨rfl, ((x_preX (av := av) C Z hP hD hS).2 U hU hW).2, NC.moved hW.alike hNC⟩⟩
theorem x_sw {S : Type} {post : Int → S → Prop} {wf : S → va_W} {y : MethodName} {cw : Cond} {rm : Room} {mc ms idx maxL : Nat} {As st0 : List Value} (hM : CHn κ.1.2.1 y cw rm mc ms κ.2.2.1.1 κ.2.2.1.2.2 As w post wf) (h : SWF own idx y cw maxL As.length) (Z : Zx κ) (hNC : NC κ.1.2.2.2.1) (hR : rm.cells = mc ∧ rm.slots = ms ∧ rm.frames + 1 ≤ R.frames ∧ 8 + (maxL + 11) + rm.locals ≤ R.locals) (hkn : k + mc ≤ R.cells ∧ n + ms ≤ R.slots) (hst : st0 = As.reverse ++ st) (hw : (st.map fun v => v.category).sum ≤ 8) (d : decode cc pc = .ok (.invokestatic idx, 3))
    (kk : ∀ (z : Int) (u : S), post z u → X κ R own cc nL (wf u) (k + mc) (n + ms) (pc + 3) lv (.int (zI z) :: st)) : X κ R own cc nL w k n pc lv st0 := by
  intro C H locs ls hl hP hD hS
  have hf := x_fr C hD hS
  obtain ⟨⟨bytes, ret, hh, h1⟩, h2, h3, h4, h6, h7⟩ := h
  have hcs : vx_CSW R κ.1.2.2.2.1 κ.1.2.2.2.2.2 own idx y bytes maxL ret hh (cw :: wB) rm mc ms As.length := by
    refine ⟨⟨hR.1, hR.2.1, hR.2.2.1, hR.2.2.2, pay_in C.ht (wB_all h2), by rw [h1]; exact List.mem_cons_self⟩, by rw [← h1]; exact C.ht _ h2, C.ht _ h6, ⟨h7.1, h7.2.1⟩, fun sig hs => ?_, C.ht _ h3, C.ht _ h4⟩
    have h8 := h7.2.2
    rw [hs] at h8
    exact (Option.some.inj h8).symm
  refine vx_calli (vx_runSX (As := As) (rest := st) ⟨C.hx, C.hb, C.hm, C.ho, C.ht⟩ (hM H.size) hcs (x_preW C Z hNC hP hD hS) rfl rfl hl.1 hst (lv_room hw) d hkn) hS (fun q _ h => hf q h) hf (fun q _ h => hf q h) (fun E ce q9 u t H1 locs1 ht hvm _ hB hz1 hk1 hS1 hce hcv hcl => ?_) (fun r u t H1 locs1 ht hvm hpost hB hz1 hk1 hS1 => ?_)
  · exact hB.1.elim
  · obtain ⟨z, rfl, hpost⟩ := hpost
    obtain ⟨hP1, hD1⟩ := hB
    rw [ht] at hP1
    exact kk z u hpost C H1 locs1 ls hl hP1 (hD1.weaken (fun _ q _ h => hf q.1 h)) hS1
theorem x_catch {E : String} (pre : List ExceptionTableEntry) (x : ExceptionTableEntry) (suf : List ExceptionTableEntry) (hsplit : κ.2.1.2.2.exceptionTable.toList = pre ++ x :: suf)
    (hpass : ∀ z ∈ pre, covers z pc = false ∨ (z.catchType ≠ 0 ∧ ∃ nm : String, Cond.classLink own z.catchType nm ∈ wB ∧ va_Nc E nm κ.1.2.2.2.1)) (hx : covers x pc = true) (h0 : x.catchType ≠ 0)
    (hlink : Cond.classLink own x.catchType E ∈ wB) (hcast : Cond.castable E E ∈ wN) (kk : ∀ q : Nat, X κ R own cc nL w k n x.handlerPc lv [.ref q]) : XX κ R own cc nL w k n pc lv E := by
  intro C H locs ls st q ce hl hP hD hS hce hcv hcl
  exact vx_catch C.ho pre x suf hsplit (fun z hz => by
    rcases hpass z hz with h | ⟨h, nm, h1, h2⟩
    · exact Or.inl h
    · exact Or.inr ⟨h, nm, C.ht _ h1, h2⟩) hx h0 (C.ht _ hlink) (va_Nw.use rfl (C.hN _ hcast)) hce hcv hcl (kk q C H locs ls hl hP hD hS)
theorem x_i2s {a : Int} (d : decode cc pc = .ok (.i2l, 1)) (kk : X κ R own cc nL w k n (pc + 1) lv (.long (zL (sI a)) :: st)) : X κ R own cc nL w k n pc lv (.int (zI a) :: st) := by
  rw [← zI_sI a]
  exact x_i2l d (sI_rg a) kk
/-- the law's out, behind the class's cells -/
theorem amid_set {wA wc : va_W} {bo : Nat} {x y : va_E} : (amid wA [(bo, x)] wc).set (wA.length + wc.length) (bo, y) = amid wA [(bo, y)] wc := by
  unfold amid
  rw [List.set_append_right _ _ (by omega), List.set_append_right _ _ (by omega)]
  have e : wA.length + wc.length - wA.length - wc.length = 0 := by omega
  rw [e]
  rfl
theorem x_lastO {wA wc : va_W} {bo : Nat} {f : Int → Int} {v : Int} (d : decode cc pc = .ok (.lastore, 1))
    (kk : X κ R own cc nL (amid wA [(bo, la (κ.2.2.1.2.2 1) 1 (ui f 0 v))] wc) k n (pc + 1) lv st) : X κ R own cc nL (amid wA [(bo, la (κ.2.2.1.2.2 1) 1 f)] wc) k n pc lv (.long (zL v) :: .int (zI 0) :: .ref bo :: st) := by
  intro C H locs ls hl hP hD hS
  have he : (amid wA [(bo, la (κ.2.2.1.2.2 1) 1 f)] wc)[wA.length + wc.length]? = some (bo, .inl (κ.2.2.1.2.2 1, 1, .inr (.inl (fun x => zL (f (x : Int)))))) := amid_B (k := 0) rfl
  have hw : (amid wA [(bo, la (κ.2.2.1.2.2 1) 1 f)] wc).set (wA.length + wc.length) (bo, .inl (κ.2.2.1.2.2 1, 1, .inr (.inl (vp_updL (fun x => zL (f (x : Int))) (zI 0).toNatClampNeg (zL v))))) = amid wA [(bo, la (κ.2.2.1.2.2 1) 1 (ui f 0 v))] wc := by
    rw [upd_zL (zI_clI (m := 1) (by omega) (by omega) (by omega)), amid_set]
    rfl
  exact va_last C.hx C.hb C.hK hP hD hS (wA.length + wc.length) 1 he rfl (zI_in (n := 1) (by omega) (by omega) (by omega)) d (fun H1 locs1 hP1 hD1 hS1 => kk C H1 locs1 ls hl (hw ▸ hP1) (hw ▸ hD1) hS1)
theorem x_laldO {wA wc : va_W} {bo : Nat} {f : Int → Int} (d : decode cc pc = .ok (.laload, 1))
    (kk : X κ R own cc nL (amid wA [(bo, la (κ.2.2.1.2.2 1) 1 f)] wc) k n (pc + 1) lv (.long (zL (f 0)) :: st)) : X κ R own cc nL (amid wA [(bo, la (κ.2.2.1.2.2 1) 1 f)] wc) k n pc lv (.int (zI 0) :: .ref bo :: st) := by
  intro C H locs ls hl hP hD hS
  have he : (amid wA [(bo, la (κ.2.2.1.2.2 1) 1 f)] wc)[wA.length + wc.length]? = some (bo, .inl (κ.2.2.1.2.2 1, 1, .inr (.inl (fun x => zL (f (x : Int)))))) := amid_B (k := 0) rfl
  refine va_lald C.hx C.hb C.hK hP (wA.length + wc.length) 1 he rfl (zI_in (n := 1) (by omega) (by omega) (by omega)) d ?_
  simp only [zI_clI (i := 0) (m := 1) (by omega) (by omega) (by omega)]
  exact kk C H locs ls hl hP hD hS
end XWR
/-- the class's cells, others ahead, the law's out behind -/
abbrev wo (wA : va_W) (bo : Nat) (ca : Nat → ClassId) (ad : Nat → Nat) (u : S0 × (Int → Int)) : va_W := amid wA [(bo, la (ca 1) 1 u.2)] (wg 82 LT ca ad u.1)
theorem wo_at {wA : va_W} {bo : Nat} {ca : Nat → ClassId} {ad : Nat → Nat} {u : S0 × (Int → Int)} : (wo wA bo ca ad u)[wA.length + 0]? = some (ad 0, .inr (4, [.ref (ad 1), .ref (ad 2), .ref (ad 3), .ref (ad 4), .int (zI (u.1.1 5))])) := amid_in (by rw [wg, wl_get (by decide)]; rfl)
/-- an int's answer, a long's answer, and the codes of what was caught -/
def Wp1 (g : Int → Int) (post : Int → S0 → Prop) (px : String → S0 → Prop) (E1 : String) (z : Int) (u : S0 × (Int → Int)) : Prop := (z = 0 ∧ ∃ r, post r u.1 ∧ u.2 0 = g r) ∨ (z = 1 ∧ px E1 u.1)
def Wp2 (g : Int → Int) (post : Int → S0 → Prop) (px : String → S0 → Prop) (E1 E2 : String) (z : Int) (u : S0 × (Int → Int)) : Prop := (z = 0 ∧ ∃ r, post r u.1 ∧ u.2 0 = g r) ∨ (z = 1 ∧ px E1 u.1) ∨ (z = 2 ∧ px E2 u.1)
theorem kq_jA : Cond.castable rc_jA rc_jA ∈ wN := List.mem_of_getElem? (i := 23) (by decide +kernel)
theorem kq_jS : Cond.castable rc_jS rc_jS ∈ wN := List.mem_of_getElem? (i := 24) (by decide +kernel)
theorem kq_jX : Cond.castable rc_jX rc_jX ∈ wN := List.mem_of_getElem? (i := 25) (by decide +kernel)
