/-! ===== from the skeleton: R_law to lw_At; behind it my own rows ===== -/
def R_law : String := "TermWeaverLaw"
def lw_P (b : Addr) (xs : List Int32) (args : Array Value) (s : State) : Prop := args = #[.ref b] ∧ s.IntsAt b xs ∧ xs.length ≤ 2048 ∧ (Jvm.Cond.and given_1 narrow_1).before args s = true
def lw_Q (_ : Array Value) (s : State) (o : Outcome) (t : State) : Prop := o = .returned (some (.int 1)) ∧ Framed s o t [] 601024 7293034
def lw_Z (below : List Frame) (a : Array Value) (s : State) : State → Prop := fun t => ∃ o, t.status = .running ∧ Ended t below o ∧ lw_Q a s o t
/-- the law's own end, with 1 on the stack, nothing written that was there before, its room as the claim has it -/
theorem lw_ret {p : Program} {l : Launch} {e : Env} {s : State} {m : MethodId} {below : List Frame} {meth : Method} {c : Code} {b : Nat} (hx : p.tables.exec = Jvm.exec) (hb : c.code = code) (hr : meth.sig.returnType = ret) (hlocks : meth.locks = false) {pc : Nat} {H : Heap} {ls : Array Slot} (hdg : decode code pc = .ok (.ireturn, 1)) : W p l e room_1 s m #[Value.ref b] below meth c H [] 601024 7293034 (lw_Z below #[Value.ref b] s) (F0 m pc ls [.int 1]) := by
  intro T hT X
  obtain ⟨fs, hret, hrun, hended, hW, hframe⟩ := X.leave (v := some (.int 1)) (hlocks := hlocks) (fun h => by rw [hr] at h; cases h)
  have hmeth' : T.vm.method? m = some meth := X.method'
  refine ⟨T.setFrames fs, ?_, .returned (some (.int 1)), hrun, hended, rfl, ⟨_, rfl⟩, hW, hframe⟩
  jvm_step X.here [X.here.top, hx, hb, hdg, hmeth', hr, ret, narrow_b1]
  (try refine ⟨rfl, ?_⟩); (try refine ⟨rfl, ?_⟩)
  first | (intro acts; rw [hret _ acts rfl rfl rfl]) | rw [hret _ _ rfl rfl rfl]
  exact Steps.refl _
/-- what holds at the law's entry: the machine, the code, the tables' words (any of lw_tbl by 'hts w (by decide +kernel)'), the script of L ints xs at the cell b, what the Statement gives of the start (any of its parts by flat_of_before) -/
def lw_At (p : Program) (s : State) (m : MethodId) (meth : Method) (c : Code) (b L : Nat) (xs : Nat → Int32) : Prop :=
  p.tables.exec = Jvm.exec ∧ c.code = code ∧ meth.sig.returnType = ret ∧ c.maxLocals = 8 ∧ s.vm.findClass R_law = some m.cls ∧ (∀ w ∈ lw_tbl, w.before #[Value.ref b] s = true) ∧ va_X b L xs s s.heap ∧ b < s.heap.size ∧ meth.locks = false ∧ (Jvm.Cond.and given_1 narrow_1).before #[Value.ref b] s = true
theorem ao_spec {args : Array Value} {s : State} {t : FieldType} (h : (Cond.arrayOver (.array t)).before args s = true) : ∃ (cA : ClassId) (k : Class) (comp : ClassId), s.vm.classes[cA]? = some k ∧ k.kind = .array comp (.array t) ∧ s.vm.findClass ("[" ++ (FieldType.array t).toString) = some cA := by
  unfold Cond.before at h
  simp only [Cond.holds, Cond.value, beq_iff_eq] at h
  cases hf : s.vm.findClass (FieldType.array t).toString with
  | none => simp [hf] at h
  | some comp =>
    simp only [hf, Option.bind_some, Option.bind_eq_some_iff, Option.map_eq_some_iff] at h
    obtain ⟨cA, h1, k, h2, h3⟩ := h
    cases h4 : k.kind with
    | array co ty =>
      rw [h4] at h3
      simp only [Bool.and_eq_true, decide_eq_true_eq] at h3
      exact ⟨cA, k, co, h2, by rw [h4, h3.1], h3.2⟩
    | _ => rw [h4] at h3; simp at h3
theorem ar_spec {args : Array Value} {s : State} {t : FieldType} (hs : t ≠ .short ∨ True) (h : (Cond.arrayClass t).before args s = true) : ∃ (cA : ClassId) (k : Class) (comp : ClassId), s.vm.classes[cA]? = some k ∧ k.kind = .array comp t ∧ s.vm.findClass ("[" ++ t.toString) = some cA := by
  obtain ⟨cA, k, comp, h1, h2, h3⟩ := Cond.arrayClass_spec h
  exact ⟨cA, k, comp, h2, h3, h1⟩
theorem k_start {args : Array Value} {s : State} (ht : ∀ w ∈ wB, w.before args s = true) (h3 : (Cond.arrayOver (.array .int)).before args s = true) (h4 : (Cond.arrayOver (.array .long)).before args s = true) : ∃ (D : va_G) (ca : Nat → ClassId), va_K D wcl (wty ca) s := by
  obtain ⟨cN, iN, hN⟩ := u_known ht iw_N (ht _ kz_N)
  obtain ⟨cE, iE, hE⟩ := u_known ht iw_E (ht _ kz_E)
  obtain ⟨cV, iV, hV⟩ := u_known ht iw_V (ht _ kz_V)
  obtain ⟨cP, iP, hP⟩ := u_known ht iw_P (ht _ kz_P)
  obtain ⟨cT, iT, hT⟩ := u_known ht iw_T (ht _ kz_T)
  obtain ⟨cM, iM, hM⟩ := u_known ht iw_M (ht _ kz_M)
  obtain ⟨a0, k0, q0, p01, p02, p03⟩ := ar_spec (Or.inr trivial) (ht _ ka_int)
  obtain ⟨a1, k1, q1, p11, p12, p13⟩ := ar_spec (Or.inr trivial) (ht _ ka_long)
  obtain ⟨a2, k2, q2, p21, p22, p23⟩ := ar_spec (Or.inr trivial) (ht _ ka_boolean)
  obtain ⟨a3, k3, q3, p31, p32, p33⟩ := ao_spec h3
  obtain ⟨a4, k4, q4, p41, p42, p43⟩ := ao_spec h4
  refine ⟨(fun c => match c with | 0 => cN | 1 => cE | 2 => cV | 3 => cP | 4 => cT | _ => cM, fun c => match c with | 0 => iN | 1 => iE | 2 => iV | 3 => iP | 4 => iT | _ => iM), fun c => match c with | 0 => a0 | 1 => a1 | 2 => a2 | 3 => a3 | _ => a4, fun c q hq => ?_, fun c q hq => ?_⟩
  · match c, hq with
    | 0, hq => cases hq; exact hN
    | 1, hq => cases hq; exact hE
    | 2, hq => cases hq; exact hV
    | 3, hq => cases hq; exact hP
    | 4, hq => cases hq; exact hT
    | 5, hq => cases hq; exact hM
    | c + 6, hq => cases hq
  · match c, hq with
    | 0, hq => cases hq; exact ⟨fun N z => ⟨(fun k h => by cases h), k0, p01, q0, p02⟩, p03⟩
    | 1, hq => cases hq; exact ⟨fun N z => ⟨(fun k h => by cases h), k1, p11, q1, p12⟩, p13⟩
    | 2, hq => cases hq; exact ⟨fun N z => ⟨(fun k h => by cases h), k2, p21, q2, p22⟩, p23⟩
    | 3, hq => cases hq; exact ⟨fun N z => ⟨(fun k h => by cases h), k3, p31, q3, p32⟩, p33⟩
    | 4, hq => cases hq; exact ⟨fun N z => ⟨(fun k h => by cases h), k4, p41, q4, p42⟩, p43⟩
    | c + 5, hq => cases hq
theorem wN_tbl : ∀ w ∈ wN, w ∈ lw_tbl := by decide +kernel
theorem wR_tbl : ∀ q ∈ wR, Cond.stringRef rc_T q.1 q.2 ∈ lw_tbl := by decide +kernel
theorem wB_tbl {w : Cond} (h : w ∈ wB) : w ∈ lw_tbl := (List.mem_filter.mp h).1
theorem rs_start {args : Array Value} {s : State} (hts : ∀ w ∈ lw_tbl, w.before args s = true) {cT : ClassId} (hc : s.vm.findClass rc_T = some cT) : RS s := by
  intro q hq
  have h := hts _ (wR_tbl q hq)
  obtain ⟨k, cf, i, a, -, -, -, -, -, he⟩ := Cond.stringRef_spec hc h
  exact ⟨a, vk_R.of h he⟩
theorem zs_start {args : Array Value} {s : State} {A : Nat → Prop} (hts : ∀ w ∈ lw_tbl, w.before args s = true) (hg : (Jvm.Cond.and given_1 narrow_1).before args s = true) (hA : ∀ a : Nat, a < s.heap.size → ¬ A a) : Zs A s s.heap := by
  have hs := flat_of_before _ hg
  exact ⟨vx_Zqof (hts _ (by decide +kernel)) (hts _ (wB_tbl kj_jT)) (hs _ (by decide +kernel)) hA, vx_Zqof (hts _ (by decide +kernel)) (hts _ (wB_tbl kj_jT)) (hs _ (by decide +kernel)) hA⟩
theorem nc_start {args : Array Value} {s : State} (hg : (Jvm.Cond.and given_1 narrow_1).before args s = true) : NC s := by
  have hs := flat_of_before _ hg
  exact ⟨va_Nc.of (args := args) (hs _ (by decide +kernel)), va_Nc.of (args := args) (hs _ (by decide +kernel))⟩
/-- the three lots of cells, laid as the loop wants them -/
theorem x_lay {κ : Kx} {k n pc : Nat} {lv : List (Nat × Value)} {st : List Value} {adT adM : Nat → Nat} {bo : Nat} {f : Int → Int} {τ σ : S0} (kk : X κ room_1 rc_L cd_L_law 8 (WD κ.2.2.1.2.2 adT adM bo (τ, f) σ) k n pc lv st) : X κ room_1 rc_L cd_L_law 8 ((wg 82 LT κ.2.2.1.2.2 adT τ ++ wg 16 LM κ.2.2.1.2.2 adM σ) ++ [(bo, la (κ.2.2.1.2.2 1) 1 f)]) k n pc lv st := by
  have lT : (wg 82 LT κ.2.2.1.2.2 adT τ).length = 82 := wl_len _ _ _
  have lM : (wg 16 LM κ.2.2.1.2.2 adM σ).length = 16 := wl_len _ _ _
  have lW : (WD κ.2.2.1.2.2 adT adM bo (τ, f) σ).length = 99 := by
    show (wg 16 LM κ.2.2.1.2.2 adM σ ++ (wg 82 LT κ.2.2.1.2.2 adT τ ++ [(bo, la (κ.2.2.1.2.2 1) 1 f)])).length = 99
    rw [List.length_append, List.length_append, lT, lM]
    rfl
  refine x_perm (fun i => if i < 16 then 82 + i else if i < 98 then i - 16 else i) (fun i x hx => ?_) (fun i j hi hj e => ?_) kk
  · rcases amid_of hx with ⟨h1, h2⟩ | ⟨h1, h2, h3⟩ | ⟨h1, h2⟩
    · rw [lM] at h1
      rw [if_pos h1, List.getElem?_append_left (by rw [List.length_append, lT, lM]; omega), List.getElem?_append_right (by omega), lT, show 82 + i - 82 = i by omega]
      exact h2
    · rw [lM] at h1 h2 h3
      rw [lT] at h2
      rw [if_neg (by omega), if_pos (by omega), List.getElem?_append_left (by rw [List.length_append, lT, lM]; omega), List.getElem?_append_left (by omega)]
      exact h3
    · rw [lM, lT] at h1 h2
      rw [if_neg (by omega), if_neg (by omega), List.getElem?_append_right (by rw [List.length_append, lT, lM]; omega), List.length_append, lT, lM, show i - (82 + 16) = i - 16 - 82 by omega]
      exact h2
  · rw [lW] at hi hj
    (repeat' split at e) <;> omega
set_option maxRecDepth 100000 in
/-- from the law's entry to its end, where the launch has no stack traces -/
theorem my_start {p : Program} {e : Env} {s : State} {m : MethodId} {below : List Frame} {meth : Method} {c : Code} (l : Launch) (hst : l.stackTraces = false) {b L : Nat} {xs : Nat → Int32} (hL : L ≤ 2048) (C0 : lw_At p s m meth c b L xs) : W p l e room_1 s m #[Value.ref b] below meth c s.heap [] 0 0 (lw_Z below #[Value.ref b] s) (entryFrame m ([Value.ref b] : List Value).toArray 8) := by
  obtain ⟨hx, hb, hr, hml, hown, hts, hX, hbl, hlk, hg⟩ := C0
  have ht : ∀ w ∈ wB, w.before #[Value.ref b] s = true := fun w hw => hts w (wB_tbl hw)
  have o3 := hts _ kb__Jvm_ClassFile_FieldType_array_Jvm_ClassFile_FieldType_int_
  have o4 := hts _ kb__Jvm_ClassFile_FieldType_array_Jvm_ClassFile_FieldType_long_
  obtain ⟨D, ca, hK⟩ := k_start ht o3 o4
  have hAO : AO s := ⟨arrayOver_alikeB (Vm.Alike.refl _) o3, arrayOver_alikeB (Vm.Alike.refl _) o4⟩
  have hN : ∀ w ∈ wN, va_Nw w s := fun w hw => va_Nw.of (by have h9 := wN_fn w hw; cases w <;> first | rfl | (simp [isFN] at h9)) (hts w (wN_tbl w hw))
  have hl := lv_entry [Value.ref b] (n := 8) (Nat.le_of_ble_eq_true rfl)
  rw [lg_entry_eq]
  obtain ⟨κ, hκ⟩ : ∃ κ : Kx, κ = ((p, l, e, s, m, #[Value.ref b]), (below, meth, c), (D, (fun q => s.heap.size ≤ q), ca), lw_Z below #[Value.ref b] s) := ⟨_, rfl⟩
  have C : Cx κ rc_L cd_L_law 8 := by rw [hκ]; exact ⟨hx, hb, hml, hown, ht, hK, hN, hlk, fun q h => h⟩
  have Z : Zx κ := by rw [hκ]; exact ⟨hst, rs_start hts (hK.1 4 _ rfl).2.1, zs_start hts hg (fun a h1 h2 => Nat.lt_irrefl _ (Nat.lt_of_lt_of_le h1 h2))⟩
  have N9 : NC κ.1.2.2.2.1 := by rw [hκ]; exact nc_start hg
  have S9 : Scr κ b L xs := by rw [hκ]; exact ⟨hX, hbl, fun h => by have h : s.heap.size ≤ b := h; omega, hL⟩
  have A9 : AO κ.1.2.2.2.1 := by rw [hκ]; exact hAO
  have hend : ∀ (w : va_W) (k n : Nat) (lv : List (Nat × Value)), k ≤ 601024 → n ≤ 7293034 → X κ room_1 rc_L cd_L_law 8 w k n 972 lv [.int (zI 1)] := by
    rw [hκ]
    intro w k n lv hk hn C H locs ls hl hP hD hS
    refine va_forget (fun q hq => hS.2.2 q hq) (W.widen hk hn ?_)
    have e1 : zI 1 = 1 := by decide
    rw [e1]
    exact lw_ret hx hb hr hlk dx_L_law_972
  have key : X κ room_1 rc_L cd_L_law 8 [] 0 0 0 (lv_args 0 [Value.ref b]) [] := by
    clear C hκ
    refine x_lv [(0, .ref b)] rfl ?_
    refine x_newO no_L_8 dx_L_law_0 (by decide) (by decide) (fun qT => ?_)
    refine x_dup dx_L_law_3 rfl ?_
    refine x_cc (As := []) c_T_init A9 cn_L_62 ⟨rfl, rfl, by decide, by decide⟩ ⟨by decide, by decide⟩ rfl (Nat.le_of_ble_eq_true rfl) dx_L_law_4 (fun adT hT => ?_)
    subst hT
    refine x_ext sU0_ext ?_
    refine x_astore_n dx_L_law_7 rfl (by decide) ?_
    refine x_newO no_L_63 dx_L_law_8 (by decide) (by decide) (fun qM => ?_)
    refine x_dup dx_L_law_11 rfl ?_
    refine x_cc (As := []) (fr_cc (wg 82 LT κ.2.2.1.2.2 adT sU0) [] c_M_init) A9 cn_L_65 ⟨rfl, rfl, by decide, by decide⟩ ⟨by decide, by decide⟩ rfl (Nat.le_of_ble_eq_true rfl) dx_L_law_12 (fun adM hM => ?_)
    subst hM
    refine x_w (amid_nil _ _) ?_
    refine x_astore_n dx_L_law_15 rfl (by decide) ?_
    refine x_iconst dx_L_law_16 ?_
    refine x_newJ (N := 1) ka_long dx_L_law_17 (by decide) (by decide) (by decide) (by decide) (fun bo => ?_)
    refine x_astore_n dx_L_law_19 rfl (by decide) ?_
    refine x_iconst dx_L_law_20 ?_
    refine x_istore dx_L_law_21 (by decide) ?_
    refine x_lv (lvL b bo adT adM 0) rfl ?_
    refine x_widen (k' := 99) (n' := 8431) (by decide) (by decide) ?_
    exact x_lay (law_loop Z N9 S9 hend rel_start)
  have h0 := key C
  rw [hκ] at h0
  exact h0 s.heap [] _ hl (fun k q h => by cases h) ⟨fun i j p q h => (by cases h), fun k q h => (by cases h)⟩ va_S.rf
