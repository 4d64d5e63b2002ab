/-! at and unify: the steps -/
section MUN
variable {τ σ : S0}
theorem at_step (h : REL τ σ) (hp : PRE τ σ) {x r : Int} (hx : In (τ.1 0) x) (r0 : 0 < r) (r1 : r < τ.2.2 17 (τ.2.1 11 x)) :
    In (τ.1 0) (σ.2.1 8 x) ∧ In (τ.1 0) (τ.2.1 6 (σ.2.1 8 x)) ∧ σ.2.1 3 (σ.2.1 8 x) = τ.2.1 6 (σ.2.1 8 x) ∧ σ.2.1 4 (σ.2.1 8 x) = τ.2.1 7 (σ.2.1 8 x) ∧
    (r - 1 < σ.2.2 9 (τ.2.1 6 (σ.2.1 8 x)) → r - 1 < τ.2.2 17 (τ.2.1 11 (τ.2.1 6 (σ.2.1 8 x))) ∧ wr τ (τ.2.1 11 x) r = wr τ (τ.2.1 11 (τ.2.1 6 (σ.2.1 8 x))) (r - 1) ∧ (τ.2.1 11 (τ.2.1 6 (σ.2.1 8 x))).toNat < (τ.2.1 11 x).toNat) ∧
    (¬ (r - 1 < σ.2.2 9 (τ.2.1 6 (σ.2.1 8 x))) → In (τ.1 0) (τ.2.1 7 (σ.2.1 8 x)) ∧ 0 ≤ r - 1 - σ.2.2 9 (τ.2.1 6 (σ.2.1 8 x)) ∧ r - 1 - σ.2.2 9 (τ.2.1 6 (σ.2.1 8 x)) < τ.2.2 17 (τ.2.1 11 (τ.2.1 7 (σ.2.1 8 x))) ∧ wr τ (τ.2.1 11 x) r = wr τ (τ.2.1 11 (τ.2.1 7 (σ.2.1 8 x))) (r - 1 - σ.2.2 9 (τ.2.1 6 (σ.2.1 8 x))) ∧ (τ.2.1 11 (τ.2.1 7 (σ.2.1 8 x))).toNat < (τ.2.1 11 x).toNat) := by
  obtain ⟨nv, hv, kn, -⟩ := rel_nv h hp
  have T := h.1.1.2.1
  have hV := h.1.2.1
  obtain ⟨k1, -⟩ := kn x hx
  obtain ⟨b1, b2, b3, b4, -⟩ := hV.2 _ k1
  rcases (nv_all nv hv hx).2 with ⟨q1, q2⟩ | ⟨q1, q2, q3, q4, q5⟩
  · obtain ⟨c1, c2⟩ := b3 q2
    have z : soF (τ.2.2 17) (-1) = 0 := if_pos rfl
    rw [c1, c2, z] at b4
    omega
  · have rt := rt_x T h.2.2.1 q1
    have t5 := (T.2.2 _ q1).2.2.2.2 q2
    have fn : τ.2.1 6 (σ.2.1 8 x) ≠ -1 := fun z => by
      have z2 : τ.2.1 7 (σ.2.1 8 x) = -1 := t5.2.mpr (by have := t5.1.mp z; omega)
      have c1 : τ.2.1 13 (τ.2.1 11 x) = -1 := q4.trans (if_pos z)
      have c2 : τ.2.1 14 (τ.2.1 11 x) = -1 := q5.trans (if_pos z2)
      have z : soF (τ.2.2 17) (-1) = 0 := if_pos rfl
      rw [c1, c2, z] at b4
      omega
    have fi := T.fa_in q1 fn
    have c1 : τ.2.1 13 (τ.2.1 11 x) = τ.2.1 11 (τ.2.1 6 (σ.2.1 8 x)) := q4.trans (if_neg fn)
    have kf := kn _ fi
    have es : soF (τ.2.2 17) (τ.2.1 13 (τ.2.1 11 x)) = σ.2.2 9 (τ.2.1 6 (σ.2.1 8 x)) := by
      rw [c1, kf.2.1]
      exact if_neg (hv _ fi)
    obtain ⟨w1, w2⟩ := wr_args hV k1 r0 r1
    have o1 := wr_1 hV k1 r0 r1
    have o2 := wr_2 hV k1 r0 r1
    rw [es] at w1 w2 o1 o2
    refine ⟨q1, fi, rt.2.2.2.1, rt.2.2.2.2, fun c => ?_, fun c => ?_⟩
    · obtain ⟨d1, d2⟩ := w1 c
      rw [c1] at d1 d2
      exact ⟨d2, by rw [o1 c, c1], by omega⟩
    · obtain ⟨d1, d2, d3⟩ := w2 c
      have sn : τ.2.1 7 (σ.2.1 8 x) ≠ -1 := fun z => by
        have c2 : τ.2.1 14 (τ.2.1 11 x) = -1 := q5.trans (if_pos z)
        omega
      have c2 : τ.2.1 14 (τ.2.1 11 x) = τ.2.1 11 (τ.2.1 7 (σ.2.1 8 x)) := q5.trans (if_neg sn)
      rw [c2] at d1 d3
      exact ⟨T.sa_in q1 sn, d2, d3, by rw [o2 c, c2], by omega⟩
theorem at_leaf (h : REL τ σ) (hp : PRE τ σ) {x : Int} (hx : In (τ.1 0) x) : (σ.2.1 8 x = -1 ∧ -1 - σ.2.1 7 x = leaf τ (τ.2.1 11 x)) ∨ (In (τ.1 0) (σ.2.1 8 x) ∧ 3 * σ.2.1 1 (σ.2.1 8 x) + σ.2.1 2 (σ.2.1 8 x) = leaf τ (τ.2.1 11 x)) := by
  obtain ⟨nv, hv, kn, -⟩ := rel_nv h hp
  unfold leaf
  rcases (nv_all nv hv hx).2 with ⟨q1, q2⟩ | ⟨q1, q2, q3, -⟩
  · left
    rw [if_pos q2, least_lead h hp hx q1]
    exact ⟨q1, rfl⟩
  · right
    rw [q3, if_neg q2]
    obtain ⟨r1, r2, -⟩ := h.2.2.1.2 _ q1
    rw [r1, r2]
    unfold sy my
    rw [if_neg q2, if_neg q2]
    exact ⟨q1, by omega⟩
/-- how the class's unify came out -/
def UOK (τ τ' : S0) (e1 e2 : Int → Int) : Prop := SN τ τ' ∧ INV τ' e1 e2 ∧ ((τ'.1 2 = τ.1 2 + 1 ∧ τ'.1 5 = 0) ∨ (τ'.1 2 = τ.1 2 ∧ ((τ'.1 5 = 1 ∧ Clash (τ.1 0) (τ.2.1 5) (cl τ e1 e2 (τ.1 2 + 1))) ∨ (τ'.1 5 = 2 ∧ Loop (τ.1 0) (τ.2.1 5) (τ.2.1 6) (τ.2.1 7) (cl τ e1 e2 (τ.1 2 + 1))))))
/-- .. is what solving will find -/
theorem un_pre {τ' V : S0} {e1 e2 : Int → Int} (T : Tb (τ.1 0) (τ.2.1 5) (τ.2.1 6) (τ.2.1 7)) (hU : UOK τ τ' e1 e2) (h2 : V.1 2 = τ.1 0) (h3 : V.1 3 = τ.1 2 + 1) (h5 : V.2.1 5 = e1) (h6 : V.2.1 6 = e2) : ∃ (row : Int → Int) (w : S0) (val : Int → Int), SolH V (τ.2.1 5) (τ.2.1 6) (τ.2.1 7) row w val ∧
    ∀ z v, SolP V (τ.2.1 5) (τ.2.1 6) (τ.2.1 7) row w val z v → FS V v ∧ Ok v ∧ ((τ'.1 2 = τ.1 2 + 1 ∧ z = 0 ∧ τ'.1 5 = 0 ∧ SOL v (τ.2.1 5) (τ.2.1 6) (τ.2.1 7) τ' (τ'.2.1 11) ∧ (∀ x y, In (V.1 2) x → In (V.1 2) y → (v.2.1 7 x = v.2.1 7 y ↔ RR V (τ.2.1 5) (τ.2.1 6) (τ.2.1 7) x y))) ∨ (τ'.1 2 = τ.1 2 ∧ 0 < z ∧ z = τ'.1 5)) := by
  obtain ⟨⟨n0, n5, n6, n7⟩, hI, hU⟩ := hU
  unfold SolH SolP RR
  rw [h2, h3, h5, h6]
  rcases hU with ⟨u1, u2⟩ | ⟨u1, ⟨u2, u3⟩ | ⟨u2, row, w, u3, u4⟩⟩
  · have hrow := inv_row hI.1
    unfold cl at hrow
    have hT := hI.1.2.1
    have hkv := kv_vf hT hrow.1 hI.2
    rw [n0, n5, n6, n7, u1] at hrow
    rw [n0, n5, n6, n7] at hkv
    refine ⟨kr τ', τ', τ'.2.1 11, Or.inr ⟨hrow, hkv.1⟩, fun z v hp => ⟨hp.1, hp.2.1, Or.inl ?_⟩⟩
    obtain ⟨-, -, p3, p4, p5⟩ := hp.2.2.resolve_left (fun q => rowc_noclash hrow q.2)
    rcases p5 with ⟨p5, -⟩ | ⟨-, x, x1, x2⟩
    · exact ⟨u1, p5, u2, p4, p3⟩
    · exact absurd x2 (hkv.2 x x1)
  · refine ⟨fun x => x, τ, fun x => x, Or.inl u3, fun z v hp => ⟨hp.1, hp.2.1, Or.inr ?_⟩⟩
    rcases hp.2.2 with ⟨p1, -⟩ | ⟨p1, -⟩
    · exact ⟨u1, by omega, by omega⟩
    · exact absurd u3 p1
  · obtain ⟨k1, x, x1, x2⟩ := kv_st T u3.1 u4
    refine ⟨row, w, _, Or.inr ⟨u3, k1⟩, fun z v hp => ⟨hp.1, hp.2.1, Or.inr ?_⟩⟩
    obtain ⟨-, -, -, -, p5⟩ := hp.2.2.resolve_left (fun q => rowc_noclash u3 q.2)
    rcases p5 with ⟨-, p5⟩ | ⟨p5, -⟩
    · exact absurd x2 (p5 x x1)
    · exact ⟨u1, by omega, by omega⟩
theorem rel_why {v w : Int} (h : REL τ σ) (hv : Rg v) (hw : Rg w) : REL (stI τ 5 v) (stI (stI σ 1 v) 0 w) := by
  obtain ⟨h1, h2, h3, h4, h5, h6⟩ := h
  exact ⟨inv_5 h1 hv, ok_stI (ok_stI h2 hv) hw, h3, h4, rfl, h6⟩
/-- behind unify -/
theorem un_rel {τ' v u : S0} {e1 e2 : Int → Int} (hT : RT v (τ.1 0) (τ.2.1 5) (τ.2.1 6) (τ.2.1 7)) (hU : UOK τ τ' e1 e2) (h5 : v.2.1 5 = e1) (h6 : v.2.1 6 = e2) (hu : u.2 = v.2) (ho : Ok u) (u2 : u.1 2 = v.1 2) (u3 : u.1 3 = τ'.1 2) (u1 : u.1 1 = τ'.1 5) (u4 : u.1 4 = 0) : REL τ' u := by
  obtain ⟨⟨n0, n5, n6, n7⟩, hI, -⟩ := hU
  refine ⟨by rw [hu, h5, h6]; exact hI, ho, ?_, u3, u1, Or.inl u4⟩
  unfold RT
  rw [n0, n5, n6, n7, hu, u2]
  exact hT
end MUN
