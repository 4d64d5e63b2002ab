/-! classes of nodes: the least closed equivalence, and how pair after pair makes it -/
abbrev In (n x : Int) : Prop := 0 ≤ x ∧ x < n
def Eqv (r : Int → Int → Prop) : Prop := (∀ x, r x x) ∧ (∀ x y, r x y → r y x) ∧ (∀ x y z, r x y → r y z → r x z)
/-- a table of nodes -/
def Tb (n : Int) (kd fa sa : Int → Int) : Prop := 0 ≤ n ∧ n ≤ 40 ∧ ∀ x, In n x → (kd x = -1 ∨ (0 ≤ kd x ∧ kd x < 30)) ∧ (fa x = -1 ∨ (0 ≤ fa x ∧ fa x < x)) ∧ (sa x = -1 ∨ (0 ≤ sa x ∧ sa x < x)) ∧ (kd x = -1 → fa x = -1 ∧ sa x = -1) ∧ (kd x ≠ -1 → (fa x = -1 ↔ kd x % 3 = 0) ∧ (sa x = -1 ↔ kd x % 3 ≠ 2))
theorem Tb.fa_eq {n : Int} {kd fa sa : Int → Int} (T : Tb n kd fa sa) {x y : Int} (hx : In n x) (hy : In n y) (h0 : kd x ≠ -1) (h : kd x = kd y) : (fa x = -1 ↔ fa y = -1) ∧ (sa x = -1 ↔ sa y = -1) := by
  have h1 := (T.2.2 x hx).2.2.2.2 h0
  have h2 := (T.2.2 y hy).2.2.2.2 (h ▸ h0)
  rw [← h] at h2
  exact ⟨h1.1.trans h2.1.symm, h1.2.trans h2.2.symm⟩
theorem Tb.fa_in {n : Int} {kd fa sa : Int → Int} (T : Tb n kd fa sa) {x : Int} (hx : In n x) (h : fa x ≠ -1) : In n (fa x) := by
  have h1 := (T.2.2 x hx).2.1
  omega
theorem Tb.sa_in {n : Int} {kd fa sa : Int → Int} (T : Tb n kd fa sa) {x : Int} (hx : In n x) (h : sa x ≠ -1) : In n (sa x) := by
  have h1 := (T.2.2 x hx).2.2.1
  omega
def Cl (n : Int) (kd fa sa : Int → Int) (r : Int → Int → Prop) : Prop := ∀ x y, In n x → In n y → kd x ≠ -1 → kd x = kd y → r x y → (fa x ≠ -1 → r (fa x) (fa y)) ∧ (sa x ≠ -1 → r (sa x) (sa y))
/-- the least equivalence that has the first E equations and is closed -/
def clo (n : Int) (kd fa sa e1 e2 : Int → Int) (E x y : Int) : Prop := ∀ r : Int → Int → Prop, Eqv r → (∀ k, 0 ≤ k → k < E → r (e1 k) (e2 k)) → Cl n kd fa sa r → r x y
theorem clo_eqv (n : Int) (kd fa sa e1 e2 : Int → Int) (E : Int) : Eqv (clo n kd fa sa e1 e2 E) :=
  ⟨fun x r h _ _ => h.1 x, fun x y h r a b c => a.2.1 _ _ (h r a b c), fun x y z h h2 r a b c => a.2.2 _ _ _ (h r a b c) (h2 r a b c)⟩
theorem clo_cl (n : Int) (kd fa sa e1 e2 : Int → Int) (E : Int) : Cl n kd fa sa (clo n kd fa sa e1 e2 E) :=
  fun x y hx hy h0 h1 h2 => ⟨fun h3 r a b c => (c x y hx hy h0 h1 (h2 r a b c)).1 h3, fun h3 r a b c => (c x y hx hy h0 h1 (h2 r a b c)).2 h3⟩
theorem clo_eq (n : Int) (kd fa sa e1 e2 : Int → Int) (E : Int) {k : Int} (h0 : 0 ≤ k) (h1 : k < E) : clo n kd fa sa e1 e2 E (e1 k) (e2 k) := fun _ _ b _ => b k h0 h1
theorem clo_mono {n : Int} {kd fa sa e1 e2 : Int → Int} {E E' x y : Int} (h : E ≤ E') (hc : clo n kd fa sa e1 e2 E x y) : clo n kd fa sa e1 e2 E' x y := fun r a b c => hc r a (fun k h0 h1 => b k h0 (by omega)) c
/-- a row of classes -/
def RowOk (n : Int) (kd row : Int → Int) : Prop := ∀ x, In n x → In n (row x) ∧ row (row x) = row x ∧ (kd x ≠ -1 → kd (row x) ≠ -1)
/-- .. that tells just the relation R, which is closed and has no clash -/
def RowC (n : Int) (kd fa sa row : Int → Int) (R : Int → Int → Prop) : Prop := RowOk n kd row ∧ (∀ x y, In n x → In n y → (row x = row y ↔ R x y)) ∧
  (∀ x, In n x → kd x ≠ -1 → kd (row x) = kd x ∧ (fa x ≠ -1 → row (fa x) = row (fa (row x))) ∧ (sa x ≠ -1 → row (sa x) = row (sa (row x)))) ∧ (∀ x, n ≤ x → x < 40 → row x = x)
/-- what still stands to be joined -/
def Pend (n : Int) (row pf ps : Int → Int) (nx pc : Int) (r : Int → Int → Prop) : Prop := Eqv r ∧ (∀ x y, In n x → In n y → row x = row y → r x y) ∧ (∀ i, nx ≤ i → i < pc → r (pf i) (ps i))
def JI (n : Int) (kd fa sa row0 : Int → Int) (R : Int → Int → Prop) (s t nx : Int) (row pf ps : Int → Int) (pc : Int) : Prop :=
  RowOk n kd row ∧ (∀ x y, In n x → In n y → row x = row y → R x y) ∧ (∀ x y, In n x → In n y → row0 x = row0 y → row x = row y) ∧
  (0 ≤ nx ∧ nx ≤ pc ∧ 1 ≤ pc ∧ ∀ i, 0 ≤ i → i < pc → In n (pf i) ∧ In n (ps i) ∧ R (pf i) (ps i)) ∧
  ((∀ i, 0 ≤ i → i < nx → row (pf i) = row (ps i)) ∧ pf 0 = s ∧ ps 0 = t) ∧
  (∀ x, In n x → kd x ≠ -1 → kd (row x) = kd x ∧ ∀ r, Pend n row pf ps nx pc r → (fa x ≠ -1 → r (fa x) (fa (row x))) ∧ (sa x ≠ -1 → r (sa x) (sa (row x)))) ∧
  pc + 2 * reps row n ≤ 1 + 2 * reps row0 n ∧ (∀ x, n ≤ x → x < 40 → row x = x)
theorem ji_0 {n : Int} {kd fa sa row0 e1 e2 pf ps : Int → Int} {E s t : Int} (T : Tb n kd fa sa) (hE : 0 ≤ E) (h : RowC n kd fa sa row0 (clo n kd fa sa e1 e2 E)) (hs : In n s) (ht : In n t) (h1 : e1 E = s) (h2 : e2 E = t) (hp : pf 0 = s) (hq : ps 0 = t) :
    JI n kd fa sa row0 (clo n kd fa sa e1 e2 (E + 1)) s t 0 row0 pf ps 1 := by
  obtain ⟨a1, a2, a3, a4⟩ := h
  refine ⟨a1, fun x y hx hy e => clo_mono (by omega) ((a2 x y hx hy).mp e), fun _ _ _ _ e => e, ⟨by omega, by omega, by omega, fun i i0 i1 => ?_⟩, ⟨fun i i0 i1 => by omega, hp, hq⟩, fun x hx h0 => ?_, by omega, a4⟩
  · have e : i = 0 := by omega
    subst e
    refine ⟨hp ▸ hs, hq ▸ ht, ?_⟩
    rw [hp, hq, ← h1, ← h2]
    exact clo_eq _ _ _ _ _ _ _ hE (by omega)
  · obtain ⟨b1, b2, b3⟩ := a3 x hx h0
    have c1 := (a1 x hx).1
    have c2 := T.fa_eq hx c1 h0 b1.symm
    refine ⟨b1, fun r hr => ⟨fun h3 => ?_, fun h3 => ?_⟩⟩
    · exact hr.2.1 _ _ (T.fa_in hx h3) (T.fa_in c1 (fun q => h3 (c2.1.mpr q))) (b2 h3)
    · exact hr.2.1 _ _ (T.sa_in hx h3) (T.sa_in c1 (fun q => h3 (c2.2.mpr q))) (b3 h3)
/-- the row behind a move: in words -/
theorem mv_cases {n : Int} {kd row : Int → Int} (hr : RowOk n kd row) {p q x : Int} (hx : In n x) : (row x = p ∧ mvF row p q n x = q) ∨ (row x ≠ p ∧ mvF row p q n x = row x) := by
  by_cases e : row x = p
  · exact Or.inl ⟨e, if_pos ⟨hx.1, hx.2, e⟩⟩
  · exact Or.inr ⟨e, if_neg (fun c => e c.2.2)⟩
theorem mv_ok {n : Int} {kd row : Int → Int} (hr : RowOk n kd row) {p q : Int} (hq : In n q) (hqq : row q = q) (hne : p ≠ q) (hk : kd p ≠ -1 → kd q ≠ -1) : RowOk n kd (mvF row p q n) := by
  intro x hx
  obtain ⟨r1, r2, r3⟩ := hr x hx
  have hq2 : mvF row p q n q = q := by
    rcases mv_cases (p := p) (q := q) hr hq with ⟨e, e2⟩ | ⟨e, e2⟩
    · omega
    · rw [e2, hqq]
  rcases mv_cases (p := p) (q := q) hr hx with ⟨e, e2⟩ | ⟨e, e2⟩
  · rw [e2]
    refine ⟨hq, hq2, fun h => hk ?_⟩
    rw [← e]
    exact r3 h
  · rw [e2]
    refine ⟨r1, ?_, r3⟩
    rcases mv_cases (p := p) (q := q) hr r1 with ⟨f, f2⟩ | ⟨f, f2⟩
    · rw [r2] at f
      exact absurd f e
    · rw [f2, r2]
theorem mv_coarse {n : Int} {kd row : Int → Int} (hr : RowOk n kd row) {p q x y : Int} (hx : In n x) (hy : In n y) (h : row x = row y) : mvF row p q n x = mvF row p q n y := by
  rcases mv_cases (p := p) (q := q) hr hx with ⟨e, e2⟩ | ⟨e, e2⟩ <;> rcases mv_cases (p := p) (q := q) hr hy with ⟨f, f2⟩ | ⟨f, f2⟩
  · rw [e2, f2]
  · exact absurd (h ▸ e) f
  · exact absurd (h ▸ f) e
  · rw [e2, f2, h]
/-- only p's class and q's have come together -/
theorem mv_sound {n : Int} {kd row : Int → Int} {R : Int → Int → Prop} (hr : RowOk n kd row) (hR : Eqv R) (hRow : ∀ x y, In n x → In n y → row x = row y → R x y) {p q : Int} (hp : In n p) (hq : In n q) (hpp : row p = p) (hqq : row q = q) (hpq : R p q) {x y : Int} (hx : In n x) (hy : In n y) (h : mvF row p q n x = mvF row p q n y) : R x y := by
  have toP : ∀ {z : Int}, In n z → row z = p → R z p := fun hz e => hRow _ _ hz hp (e.trans hpp.symm)
  have toQ : ∀ {z : Int}, In n z → row z = q → R z q := fun hz e => hRow _ _ hz hq (e.trans hqq.symm)
  rcases mv_cases (p := p) (q := q) hr hx with ⟨e, e2⟩ | ⟨e, e2⟩ <;> rcases mv_cases (p := p) (q := q) hr hy with ⟨f, f2⟩ | ⟨f, f2⟩
  · exact hRow x y hx hy (e.trans f.symm)
  · rw [e2, f2] at h
    exact hR.2.2 _ _ _ (toP hx e) (hR.2.2 _ _ _ hpq (hR.2.1 _ _ (toQ hy h.symm)))
  · rw [e2, f2] at h
    exact hR.2.2 _ _ _ (toQ hx h) (hR.2.1 _ _ (hR.2.2 _ _ _ (toP hy f) hpq))
  · rw [e2, f2] at h
    exact hRow x y hx hy h
/-- equal already -/
theorem ji_same {n : Int} {kd fa sa row0 row pf ps : Int → Int} {R : Int → Int → Prop} {s t nx pc : Int} (h : JI n kd fa sa row0 R s t nx row pf ps pc) (hlt : nx < pc) (e : row (pf nx) = row (ps nx)) : JI n kd fa sa row0 R s t (nx + 1) row pf ps pc := by
  obtain ⟨a, b, c, d, f, g, i, j⟩ := h
  refine ⟨a, b, c, ⟨by omega, by omega, d.2.2⟩, ⟨fun z z0 z1 => ?_, f.2⟩, fun x hx h0 => ?_, i, j⟩
  · by_cases hz : z = nx
    · rw [hz]; exact e
    · exact f.1 z z0 (by omega)
  · obtain ⟨g1, g2⟩ := g x hx h0
    refine ⟨g1, fun r hr => g2 r ⟨hr.1, hr.2.1, fun z z0 z1 => ?_⟩⟩
    by_cases hz : z = nx
    · rw [hz]
      obtain ⟨k1, k2, -⟩ := d.2.2.2 nx d.1 hlt
      exact hr.2.1 _ _ k1 k2 e
    · exact hr.2.2 z (by omega) z1
/-- a class p, all of variables, goes to q -/
theorem ji_var {n : Int} {kd fa sa row0 row pf ps : Int → Int} {R : Int → Int → Prop} (hR : Eqv R) {s t nx pc p q : Int} (h : JI n kd fa sa row0 R s t nx row pf ps pc) (hlt : nx < pc) (hp : (p = row (pf nx) ∧ q = row (ps nx)) ∨ (q = row (pf nx) ∧ p = row (ps nx))) (hne : p ≠ q) (hv : kd p = -1) : JI n kd fa sa row0 R s t (nx + 1) (mvF row p q n) pf ps pc := by
  obtain ⟨a, b, c, d, f, g, i, j⟩ := h
  obtain ⟨k1, k2, k3⟩ := d.2.2.2 nx d.1 hlt
  obtain ⟨a1, a2, a3⟩ := a _ k1
  obtain ⟨b1, b2, b3⟩ := a _ k2
  have hpf : R (row (pf nx)) (pf nx) := b _ _ a1 k1 a2
  have hps : R (ps nx) (row (ps nx)) := hR.2.1 _ _ (b _ _ b1 k2 b2)
  have hrr : R (row (pf nx)) (row (ps nx)) := hR.2.2 _ _ _ hpf (hR.2.2 _ _ _ k3 hps)
  have H : In n p ∧ In n q ∧ row p = p ∧ row q = q ∧ R p q ∧ (∀ r : Int → Int → Prop, (∀ x y, In n x → In n y → mvF row p q n x = mvF row p q n y → r x y) → r (pf nx) (ps nx)) ∧ mvF row p q n (pf nx) = mvF row p q n (ps nx) := by
    have key : mvF row p q n (pf nx) = mvF row p q n (ps nx) := by
      rcases hp with ⟨e1, e2⟩ | ⟨e1, e2⟩
      · have l1 : mvF row p q n (pf nx) = q := if_pos ⟨k1.1, k1.2, e1.symm⟩
        have l2 : mvF row p q n (ps nx) = row (ps nx) := if_neg (fun z => hne (by rw [← z.2.2, e2]))
        rw [l1, l2, e2]
      · have l1 : mvF row p q n (ps nx) = q := if_pos ⟨k2.1, k2.2, e2.symm⟩
        have l2 : mvF row p q n (pf nx) = row (pf nx) := if_neg (fun z => hne (by rw [← z.2.2, e1]))
        rw [l1, l2, e1]
    rcases hp with ⟨e1, e2⟩ | ⟨e1, e2⟩
    · subst e1; subst e2
      exact ⟨a1, b1, a2, b2, hrr, fun r hr => hr _ _ k1 k2 key, key⟩
    · subst e1; subst e2
      exact ⟨b1, a1, b2, a2, hR.2.1 _ _ hrr, fun r hr => hr _ _ k1 k2 key, key⟩
  obtain ⟨p1, q1, pp, qq, pq, hnx, hkey⟩ := H
  refine ⟨mv_ok a q1 qq hne (fun z => absurd hv z), fun x y hx hy e => mv_sound a hR b p1 q1 pp qq pq hx hy e, fun x y hx hy e => mv_coarse a hx hy (c x y hx hy e), ⟨by omega, by omega, d.2.2⟩, ⟨fun z z0 z1 => ?_, f.2⟩, fun x hx h0 => ?_, ?_, fun x hx => ?_⟩
  · by_cases hz : z = nx
    · rw [hz]; exact hkey
    · have m := d.2.2.2 z z0 (by omega)
      exact mv_coarse a m.1 m.2.1 (f.1 z z0 (by omega))
  · obtain ⟨g1, g2⟩ := g x hx h0
    have hrow : mvF row p q n x = row x := by
      rcases mv_cases (p := p) (q := q) a hx with ⟨e, -⟩ | ⟨-, e⟩
      · rw [e, hv] at g1
        exact absurd g1.symm h0
      · exact e
    rw [hrow]
    refine ⟨g1, fun r hr => g2 r ⟨hr.1, fun u v hu hv' e => hr.2.1 u v hu hv' (mv_coarse a hu hv' e), fun z z0 z1 => ?_⟩⟩
    by_cases hz : z = nx
    · rw [hz]; exact hnx r hr.2.1
    · exact hr.2.2 z (by omega) z1
  · have := reps_mv (row := row) (n := n) p1.1 p1.2 pp qq hne
    omega
  · rw [show mvF row p q n x = row x from if_neg (fun z => by omega)]
    exact j x hx
/-- two classes with symbols, the same one: q's goes to p, and their arguments are to be joined -/
theorem ji_both {n : Int} {kd fa sa row0 row pf ps pf' ps' : Int → Int} {R : Int → Int → Prop} (T : Tb n kd fa sa) (hR : Eqv R) (hC : Cl n kd fa sa R) {s t nx pc pc' p q : Int} (h : JI n kd fa sa row0 R s t nx row pf ps pc) (hlt : nx < pc) (hp : p = row (pf nx)) (hq : q = row (ps nx)) (hne : p ≠ q) (hv : kd p ≠ -1) (hk : kd p = kd q)
    (h1 : pc ≤ pc') (h2 : pc' ≤ pc + 2) (h3 : ∀ i, 0 ≤ i → i < pc → pf' i = pf i ∧ ps' i = ps i) (h4 : ∀ i, pc ≤ i → i < pc' → (fa p ≠ -1 ∧ pf' i = fa p ∧ ps' i = fa q) ∨ (sa p ≠ -1 ∧ pf' i = sa p ∧ ps' i = sa q))
    (h5 : fa p ≠ -1 → ∃ i, pc ≤ i ∧ i < pc' ∧ pf' i = fa p ∧ ps' i = fa q) (h6 : sa p ≠ -1 → ∃ i, pc ≤ i ∧ i < pc' ∧ pf' i = sa p ∧ ps' i = sa q) : JI n kd fa sa row0 R s t (nx + 1) (mvF row q p n) pf' ps' pc' := by
  obtain ⟨a, b, c, d, f, g, i, j⟩ := h
  obtain ⟨k1, k2, k3⟩ := d.2.2.2 nx d.1 hlt
  obtain ⟨a1, a2, a3⟩ := a _ k1
  obtain ⟨b1, b2, b3⟩ := a _ k2
  have hpf : R (row (pf nx)) (pf nx) := b _ _ a1 k1 a2
  have hps : R (ps nx) (row (ps nx)) := hR.2.1 _ _ (b _ _ b1 k2 b2)
  have hrr : R (row (pf nx)) (row (ps nx)) := hR.2.2 _ _ _ hpf (hR.2.2 _ _ _ k3 hps)
  rw [← hp] at a1 a2 hrr
  rw [← hq] at b1 b2 hrr
  have hcl := hC p q a1 b1 hv hk hrr
  have hfe := T.fa_eq a1 b1 hv hk
  have hkey : mvF row q p n (pf nx) = mvF row q p n (ps nx) := by
    have l1 : mvF row q p n (ps nx) = p := if_pos ⟨k2.1, k2.2, hq.symm⟩
    have l2 : mvF row q p n (pf nx) = row (pf nx) := if_neg (fun z => hne (by rw [← z.2.2, hp]))
    rw [l1, l2, hp]
  have hold : ∀ z, 0 ≤ z → z < pc → pf' z = pf z ∧ ps' z = ps z := h3
  refine ⟨mv_ok a a1 a2 (Ne.symm hne) (fun _ => hv), fun x y hx hy e => mv_sound a hR b b1 a1 b2 a2 (hR.2.1 _ _ hrr) hx hy e, fun x y hx hy e => mv_coarse a hx hy (c x y hx hy e), ⟨by omega, by omega, by omega, fun z z0 z1 => ?_⟩, ⟨fun z z0 z1 => ?_, ?_, ?_⟩, fun x hx h0 => ?_, ?_, fun x hx => ?_⟩
  · by_cases hz : z < pc
    · rw [(hold z z0 hz).1, (hold z z0 hz).2]
      exact d.2.2.2 z z0 hz
    · rcases h4 z (by omega) z1 with ⟨e0, e1, e2⟩ | ⟨e0, e1, e2⟩
      · rw [e1, e2]
        exact ⟨T.fa_in a1 e0, T.fa_in b1 (fun y => e0 (hfe.1.mpr y)), hcl.1 e0⟩
      · rw [e1, e2]
        exact ⟨T.sa_in a1 e0, T.sa_in b1 (fun y => e0 (hfe.2.mpr y)), hcl.2 e0⟩
  · rw [(hold z z0 (by omega)).1, (hold z z0 (by omega)).2]
    by_cases hz : z = nx
    · rw [hz]; exact hkey
    · have m := d.2.2.2 z z0 (by omega)
      exact mv_coarse a m.1 m.2.1 (f.1 z z0 (by omega))
  · rw [(hold 0 (by omega) (by omega)).1]; exact f.2.1
  · rw [(hold 0 (by omega) (by omega)).2]; exact f.2.2
  · obtain ⟨g1, g2⟩ := g x hx h0
    have old : ∀ r, Pend n (mvF row q p n) pf' ps' (nx + 1) pc' r → Pend n row pf ps nx pc r := fun r hr => ⟨hr.1, fun u v hu hv' e => hr.2.1 u v hu hv' (mv_coarse a hu hv' e), fun z z0 z1 => by
      by_cases hz : z = nx
      · rw [hz]; exact hr.2.1 _ _ k1 k2 hkey
      · have e := hr.2.2 z (by omega) (by omega)
        rw [(hold z (by omega) z1).1, (hold z (by omega) z1).2] at e
        exact e⟩
    rcases mv_cases (p := q) (q := p) a hx with ⟨e, e2⟩ | ⟨e, e2⟩
    · rw [e2]
      rw [e] at g1 g2
      refine ⟨hk.trans g1, fun r hr => ⟨fun h7 => ?_, fun h7 => ?_⟩⟩
      · have m1 := (g2 r (old r hr)).1 h7
        have hx2 := T.fa_eq hx b1 h0 g1.symm
        obtain ⟨w, w0, w1, w2, w3⟩ := h5 (fun y => h7 (hx2.1.mpr (hfe.1.mp y)))
        have m2 := hr.2.2 w (by omega) w1
        rw [w2, w3] at m2
        exact hr.1.2.2 _ _ _ m1 (hr.1.2.1 _ _ m2)
      · have m1 := (g2 r (old r hr)).2 h7
        have hx2 := T.fa_eq hx b1 h0 g1.symm
        obtain ⟨w, w0, w1, w2, w3⟩ := h6 (fun y => h7 (hx2.2.mpr (hfe.2.mp y)))
        have m2 := hr.2.2 w (by omega) w1
        rw [w2, w3] at m2
        exact hr.1.2.2 _ _ _ m1 (hr.1.2.1 _ _ m2)
    · rw [e2]
      exact ⟨g1, fun r hr => g2 r (old r hr)⟩
  · have := reps_mv (row := row) (n := n) b1.1 b1.2 b2 a2 (Ne.symm hne)
    omega
  · rw [show mvF row q p n x = row x from if_neg (fun z => by omega)]
    exact j x hx
/-- nothing is left to be joined -/
theorem ji_end {n : Int} {kd fa sa row0 row e1 e2 pf ps : Int → Int} {E s t pc : Int} (T : Tb n kd fa sa) (h0 : RowC n kd fa sa row0 (clo n kd fa sa e1 e2 E)) (he : ∀ k, 0 ≤ k → k < E + 1 → In n (e1 k) ∧ In n (e2 k)) (h1 : e1 E = s) (h2 : e2 E = t) (h : JI n kd fa sa row0 (clo n kd fa sa e1 e2 (E + 1)) s t pc row pf ps pc) : RowC n kd fa sa row (clo n kd fa sa e1 e2 (E + 1)) := by
  obtain ⟨a, b, c, d, f, g, i, j⟩ := h
  have hE : Eqv (fun x y => x = y ∨ (In n x ∧ In n y ∧ row x = row y)) := by
    refine ⟨fun x => Or.inl rfl, fun x y h => ?_, fun x y z h h' => ?_⟩
    · rcases h with h | ⟨u, v, w⟩
      · exact Or.inl h.symm
      · exact Or.inr ⟨v, u, w.symm⟩
    · rcases h with h | ⟨u, v, w⟩
      · rw [h]; exact h'
      · rcases h' with h' | ⟨u', v', w'⟩
        · rw [← h']; exact Or.inr ⟨u, v, w⟩
        · exact Or.inr ⟨u, v', w.trans w'⟩
  have hP : Pend n row pf ps pc pc (fun x y => x = y ∨ (In n x ∧ In n y ∧ row x = row y)) := ⟨hE, fun x y hx hy e => Or.inr ⟨hx, hy, e⟩, fun z z0 z1 => by omega⟩
  have hargs : ∀ x, In n x → kd x ≠ -1 → kd (row x) = kd x ∧ (fa x ≠ -1 → row (fa x) = row (fa (row x))) ∧ (sa x ≠ -1 → row (sa x) = row (sa (row x))) := by
    intro x hx hk
    obtain ⟨g1, g2⟩ := g x hx hk
    obtain ⟨g3, g4⟩ := g2 _ hP
    refine ⟨g1, fun h3 => ?_, fun h3 => ?_⟩
    · rcases g3 h3 with e | e
      · rw [e]
      · exact e.2.2
    · rcases g4 h3 with e | e
      · rw [e]
      · exact e.2.2
  refine ⟨a, fun x y hx hy => ⟨b x y hx hy, fun hc => ?_⟩, hargs, j⟩
  have hcl : Cl n kd fa sa (fun x y => x = y ∨ (In n x ∧ In n y ∧ row x = row y)) := by
    intro u v hu hv hk hkk huv
    rcases huv with e | ⟨-, -, e⟩
    · subst e
      exact ⟨fun _ => Or.inl rfl, fun _ => Or.inl rfl⟩
    · obtain ⟨u1, u2, u3⟩ := hargs u hu hk
      obtain ⟨v1, v2, v3⟩ := hargs v hv (hkk ▸ hk)
      have fe := T.fa_eq hu hv hk hkk
      refine ⟨fun h3 => ?_, fun h3 => ?_⟩
      · have h4 : fa v ≠ -1 := fun q => h3 (fe.1.mpr q)
        exact Or.inr ⟨T.fa_in hu h3, T.fa_in hv h4, by rw [u2 h3, v2 h4, e]⟩
      · have h4 : sa v ≠ -1 := fun q => h3 (fe.2.mpr q)
        exact Or.inr ⟨T.sa_in hu h3, T.sa_in hv h4, by rw [u3 h3, v3 h4, e]⟩
  have heq : ∀ k, 0 ≤ k → k < E + 1 → (e1 k = e2 k ∨ (In n (e1 k) ∧ In n (e2 k) ∧ row (e1 k) = row (e2 k))) := by
    intro k k0 k1
    obtain ⟨m1, m2⟩ := he k k0 k1
    refine Or.inr ⟨m1, m2, ?_⟩
    by_cases hk : k = E
    · subst hk
      rw [h1, h2]
      have := f.1 0 (by omega) (by omega)
      rw [f.2.1, f.2.2] at this
      exact this
    · exact c _ _ m1 m2 ((h0.2.1 _ _ m1 m2).mpr (clo_eq _ _ _ _ _ _ _ k0 (by omega)))
  rcases hc _ hE heq hcl with e | e
  · rw [e]
  · exact e.2.2
/-- two nodes that must be equal have different symbols -/
def Clash (n : Int) (kd : Int → Int) (R : Int → Int → Prop) : Prop := ∃ x y, In n x ∧ In n y ∧ R x y ∧ kd x ≠ -1 ∧ kd y ≠ -1 ∧ kd x ≠ kd y
theorem ji_clash {n : Int} {kd fa sa row0 row pf ps : Int → Int} {R : Int → Int → Prop} (hR : Eqv R) {s t nx pc : Int} (h : JI n kd fa sa row0 R s t nx row pf ps pc) (hlt : nx < pc) (h1 : kd (row (pf nx)) ≠ -1) (h2 : kd (row (ps nx)) ≠ -1) (h3 : kd (row (pf nx)) ≠ kd (row (ps nx))) : Clash n kd R := by
  obtain ⟨a, b, c, d, -⟩ := h
  obtain ⟨k1, k2, k3⟩ := d.2.2.2 nx d.1 hlt
  obtain ⟨a1, a2, a3⟩ := a _ k1
  obtain ⟨b1, b2, b3⟩ := a _ k2
  exact ⟨_, _, a1, b1, hR.2.2 _ _ _ (b _ _ a1 k1 a2) (hR.2.2 _ _ _ k3 (hR.2.1 _ _ (b _ _ b1 k2 b2))), h1, h2, h3⟩
theorem rowc_noclash {n : Int} {kd fa sa row : Int → Int} {R : Int → Int → Prop} (h : RowC n kd fa sa row R) : ¬ Clash n kd R := by
  rintro ⟨x, y, hx, hy, hr, h1, h2, h3⟩
  obtain ⟨-, b, c, -⟩ := h
  have e := (b x y hx hy).mpr hr
  exact h3 (by rw [← (c x hx h1).1, ← (c y hy h2).1, e])
