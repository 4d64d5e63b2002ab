/-! two ways to one value -/
section XTN
variable {κ : Kx} {R : Room} {own : String} {cc : ByteArray} {nL : Nat} {w : va_W} {k n pc : Nat} {lv : List (Nat × Value)} {st : List Value}
theorem x_tern (pc' j : Nat) (P : Int → Prop) (kk : ∀ v, P v → X κ R own cc nL w k n pc' lv (.int (zI v) :: st.drop j)) (main : (∀ v, P v → X κ R own cc nL w k n pc' lv (.int (zI v) :: st.drop j)) → X κ R own cc nL w k n pc lv st) : X κ R own cc nL w k n pc lv st := main kk
theorem x_ternL (pc' j : Nat) (P : Int → Prop) (kk : ∀ v, P v → X κ R own cc nL w k n pc' lv (.long (zL v) :: st.drop j)) (main : (∀ v, P v → X κ R own cc nL w k n pc' lv (.long (zL v) :: st.drop j)) → X κ R own cc nL w k n pc lv st) : X κ R own cc nL w k n pc lv st := main kk
theorem x_ternW {ad : Nat → Nat} {σ : S0} (pc' j : Nat) (P : Int → S0 → Prop) (kk : ∀ v u, P v u → X κ R own cc nL (wg 16 LM κ.2.2.1.2.2 ad u) k n pc' lv (.int (zI v) :: st.drop j)) (main : (∀ v u, P v u → X κ R own cc nL (wg 16 LM κ.2.2.1.2.2 ad u) k n pc' lv (.int (zI v) :: st.drop j)) → X κ R own cc nL (wg 16 LM κ.2.2.1.2.2 ad σ) k n pc lv st) : X κ R own cc nL (wg 16 LM κ.2.2.1.2.2 ad σ) k n pc lv st := main kk
theorem x_joinW {ad : Nat → Nat} {σ : S0} (pc' j : Nat) (P : S0 → Prop) (kk : ∀ u, P u → X κ R own cc nL (wg 16 LM κ.2.2.1.2.2 ad u) k n pc' lv (st.drop j)) (main : (∀ u, P u → X κ R own cc nL (wg 16 LM κ.2.2.1.2.2 ad u) k n pc' lv (st.drop j)) → X κ R own cc nL (wg 16 LM κ.2.2.1.2.2 ad σ) k n pc lv st) : X κ R own cc nL (wg 16 LM κ.2.2.1.2.2 ad σ) k n pc lv st := main kk
end XTN
/-- the reference's new node -/
def mkm (σ : S0) (f m a b : Int) : S0 := stI (stI (stF (stF (stF (stF σ 1 (σ.1 2) f) 2 (σ.1 2) m) 3 (σ.1 2) a) 4 (σ.1 2) b) 2 (σ.1 2 + 1)) 4 0
def mny (a b : Int) : Int := if a < 0 then 0 else if b < 0 then 1 else 2
def vmin (a b : Int) : Int := if a < b then a else b
def vmax (a b : Int) : Int := if a < b then b else a
