/-! rows for the law's own body -/
def sx (xs : Nat → Int32) (i : Int) : Int := (xs i.toNat).toInt
theorem sx_rg (xs : Nat → Int32) (i : Int) : Rg (sx xs i) := ⟨Int32.le_toInt _, by have := Int32.toInt_lt (xs i.toNat); unfold sx; omega⟩
theorem zI_sx (xs : Nat → Int32) (i : Int) : zI (sx xs i) = xs i.toNat := Int32.ofInt_toInt _
def sL (x : Int64) : Int := x.toInt
theorem zL_sL (x : Int64) : zL (sL x) = x := Int64.ofInt_toInt _
theorem sL_rg (x : Int64) : RgL (sL x) := ⟨Int64.le_toInt _, by have := Int64.toInt_lt x; unfold sL; omega⟩
def Scr (κ : Kx) (b L : Nat) (xs : Nat → Int32) : Prop := va_X b L xs κ.1.2.2.2.1 κ.1.2.2.2.1.heap ∧ b < κ.1.2.2.2.1.heap.size ∧ ¬ κ.2.2.1.2.1 b ∧ L ≤ 2048
section XLW
variable {κ : Kx} {R : Room} {own : String} {cc : ByteArray} {nL : Nat} {w : va_W} {k n pc : Nat} {lv : List (Nat × Value)} {st : List Value}
theorem x_widen {k' n' : Nat} (hk : k ≤ k') (hn : n ≤ n') (kk : X κ R own cc nL w k' n' pc lv st) : X κ R own cc nL w k n pc lv st := by
  intro C H locs ls hl hP hD hS
  exact W.widen hk hn (kk C H locs ls hl hP hD hS)
theorem x_sld {b L : Nat} {xs : Nat → Int32} (hX : Scr κ b L xs) {i : Int} (h0 : 0 ≤ i) (h1 : i < (L : Int)) (d : decode cc pc = .ok (.iaload, 1)) (kk : X κ R own cc nL w k n (pc + 1) lv (.int (zI (sx xs i)) :: st)) : X κ R own cc nL w k n pc lv (.int (zI i) :: .ref b :: st) := by
  intro C H locs ls hl hP hD hS
  obtain ⟨x1, x2, x3, x4⟩ := hX
  refine va_sld C.hx C.hb x1 x2 x3 hS (zI_in h0 h1 (by omega)) d ?_
  rw [zI_cl ⟨by omega, by omega⟩, ← zI_sx xs]
  exact kk C H locs ls hl hP hD hS
theorem x_slen {b L : Nat} {xs : Nat → Int32} (hX : Scr κ b L xs) (d : decode cc pc = .ok (.arraylength, 1)) (kk : X κ R own cc nL w k n (pc + 1) lv (.int (zI (L : Int)) :: st)) : X κ R own cc nL w k n pc lv (.ref b :: st) := by
  intro C H locs ls hl hP hD hS
  obtain ⟨x1, x2, x3, x4⟩ := hX
  refine va_slen C.hx C.hb x1 x2 x3 hS d ?_
  have e : Int32.ofNat L = zI (L : Int) := (zI_nI L).symm
  rw [e]
  exact kk C H locs ls hl hP hD hS
theorem x_tabI {dflt lo hi : Int} {offs : Array Int} {len : Nat} {off z : Int} {tgt : Nat} (d : decode cc pc = .ok (.tableswitch dflt lo hi offs, len)) (hz : Rg z) (h1 : lo ≤ z) (h2 : z ≤ hi) (ho : offs[(z - lo).toNat]? = some off) (ht : (pc : Int) + off = (tgt : Int)) (kk : X κ R own cc nL w k n tgt lv st) : X κ R own cc nL w k n pc lv (.int (zI z) :: st) := by
  intro C H locs ls hl hP hD hS
  have e := zI_toInt hz
  exact lv_tableIn C.hx C.hb d (by rw [e]; omega) (by rw [e]; omega) (by rw [e]; exact ho) ht (kk C H locs ls hl hP hD hS)
theorem x_tabO {dflt lo hi : Int} {offs : Array Int} {len : Nat} {z : Int} {tgt : Nat} (d : decode cc pc = .ok (.tableswitch dflt lo hi offs, len)) (hz : Rg z) (h : hi < z) (ht : (pc : Int) + dflt = (tgt : Int)) (kk : X κ R own cc nL w k n tgt lv st) : X κ R own cc nL w k n pc lv (.int (zI z) :: st) := by
  intro C H locs ls hl hP hD hS
  have e := zI_toInt hz
  exact lv_tableOut C.hx C.hb d (by rw [e]; exact Or.inr h) ht (kk C H locs ls hl hP hD hS)
theorem x_lcmpE {a : Int} (d : decode cc pc = .ok (.lcmp, 1)) (kk : X κ R own cc nL w k n (pc + 1) lv (.int (zI 0) :: st)) : X κ R own cc nL w k n pc lv (.long (zL a) :: .long (zL a) :: st) := by
  rw [← zL_sL (zL a)]
  refine x_lcmp d (sL_rg _) (sL_rg _) ?_
  have e : zc (sL (zL a)) (sL (zL a)) = 0 := by
    unfold zc
    rw [if_neg (by omega)]
    first | rw [if_pos rfl] | rw [if_neg (by omega)]
  rw [e]
  exact kk
end XLW
/-- all that the law has: the reference's cells, the class's, its own out -/
abbrev WD (ca : Nat → ClassId) (adT adM : Nat → Nat) (bo : Nat) (u : S0 × (Int → Int)) (σ : S0) : va_W := wo (wg 16 LM ca adM σ) bo ca adT u
abbrev WR (ca : Nat → ClassId) (adT adM : Nat → Nat) (bo : Nat) (u : S0 × (Int → Int)) (σ : S0) : va_W := amid [] (wg 82 LT ca adT u.1 ++ [(bo, la (ca 1) 1 u.2)]) (wg 16 LM ca adM σ)
theorem wd_wr {ca : Nat → ClassId} {adT adM : Nat → Nat} {bo : Nat} {u : S0 × (Int → Int)} {σ : S0} : WD ca adT adM bo u σ = WR ca adT adM bo u σ := rfl
theorem wr_at {ca : Nat → ClassId} {adT adM : Nat → Nat} {bo : Nat} {u : S0 × (Int → Int)} {σ : S0} : (WR ca adT adM bo u σ)[([] : va_W).length + 0]? = some (adM 0, oM ca adM 0 σ.1) := amid_in (by rw [wg, wl_get (by decide)]; rfl)
abbrev lvL (b bo : Nat) (adT adM : Nat → Nat) (i : Int) : List (Nat × Value) := [(0, .ref b), (1, .ref (adT 0)), (2, .ref (adM 0)), (3, .ref bo), (4, .int (zI i))]
/-- the text's place, in two ints -/
abbrev ATx (xs : Nat → Int32) (i : Int) : Int := sL (zL (sL (zL (sx xs (i + 2)) <<< ((zI 32).toInt64 &&& 63))) ||| zL (sL (zL (sx xs (i + 3)) &&& zL 4294967295)))
/-- what every case of the law has -/
def LH (κ : Kx) (b L : Nat) (xs : Nat → Int32) (i : Int) (k n : Nat) : Prop := Zx κ ∧ NC κ.1.2.2.2.1 ∧ Scr κ b L xs ∧ 0 ≤ i ∧ i + 4 ≤ (L : Int) ∧ k + 4 ≤ 601024 ∧ n + 24 ≤ 7293034
/-- and how it goes on -/
def LK (κ : Kx) (b bo : Nat) (adT adM : Nat → Nat) (i : Int) (k n : Nat) : Prop := ∀ (u : S0 × (Int → Int)) (σ' : S0), REL u.1 σ' → X κ room_1 rc_L cd_L_law 8 (WD κ.2.2.1.2.2 adT adM bo u σ') (k + 4) (n + 24) 965 (lvL b bo adT adM i) []
