/-! switches, and words for the public methods -/
section XTB
variable {κ : Kx} {R : Room} {own : String} {cc : ByteArray} {nL : Nat} {w : va_W} {k n pc : Nat} {lv : List (Nat × Value)} {st : List Value}
theorem x_tabOut {dflt lo hi : Int} {offs : Array Int} {len tgt : Nat} {a : Int} (d : decode cc pc = .ok (.tableswitch dflt lo hi offs, len)) (ha : Rg a) (h : a < lo ∨ hi < a) (ht : (pc : Int) + dflt = (tgt : Int)) (kk : X κ R own cc nL w k n tgt lv st) : X κ R own cc nL w k n pc lv (.int (zI a) :: st) := by
  intro C H locs ls hl hP hD hS
  exact lv_tableOut C.hx C.hb d (by rw [zI_toInt ha]; exact h) ht (kk C H locs ls hl hP hD hS)
theorem x_tabIn {dflt lo hi off : Int} {offs : Array Int} {len tgt : Nat} {a : Int} (d : decode cc pc = .ok (.tableswitch dflt lo hi offs, len)) (ha : Rg a) (h1 : ¬ a < lo) (h2 : ¬ hi < a) (ho : offs[(a - lo).toNat]? = some off) (ht : (pc : Int) + off = (tgt : Int)) (kk : X κ R own cc nL w k n tgt lv st) : X κ R own cc nL w k n pc lv (.int (zI a) :: st) := by
  intro C H locs ls hl hP hD hS
  exact lv_tableIn C.hx C.hb d (by rw [zI_toInt ha]; exact h1) (by rw [zI_toInt ha]; exact h2) (by rw [zI_toInt ha]; exact ho) ht (kk C H locs ls hl hP hD hS)
end XTB
def tk (f a b : Int) : Int := 3 * f + ((if a = -1 then 0 else 1) + (if b = -1 then 0 else 1))
theorem tk_fr {σ u : S0} {f a b K : Int} (h : FRv (mkn σ K a b) u) (e : tk f a b = K) : FRv (mkn σ (tk f a b) a b) u := e ▸ h
def TermOk (n f a b : Int) : Prop := (0 ≤ f ∧ f < 10) ∧ ¬ (a = -1 ∧ b ≠ -1) ∧ (a = -1 ∨ In n a) ∧ (b = -1 ∨ In n b)
theorem inv_less {σ u : S0} {e1 e2 : Int → Int} {v z : Int} (hI : INV σ e1 e2) (h0 : 0 ≤ v) (h1 : v ≤ σ.1 2) (pF : FRv (stI σ 2 v) u) (pO : Ok u) (pz : (1 = z ∧ VF (σ.1 0) (σ.2.1 5) (σ.2.1 6) (σ.2.1 7) (σ.2.1 (21 + v.toNat)) u) ∨ (0 = z ∧ ST (σ.1 0) (σ.2.1 5) (σ.2.1 6) (σ.2.1 7) (σ.2.1 (21 + v.toNat)) u)) : INV u e1 e2 := by
  refine ⟨inv_settled (inv0_less hI.1 h0 h1) pF pO, ?_⟩
  rcases pz with ⟨-, pv⟩ | ⟨-, ps⟩
  · exact vf_settled (σ := stI σ 2 v) pF rfl pv
  · exact (not_st hI (by omega) ps).elim
