/-! the layouts: the class's 82 cells, the reference's 16 -/
def kT (k : Nat) : Nat × Nat := if k < 5 ∨ k = 8 ∨ k = 20 then (3, 0) else if k = 17 ∨ k = 18 ∨ k = 19 ∨ 42 ≤ k then (1, 40) else if k = 9 ∨ k = 10 then (0, 80) else (0, 40)
def oT (ca : Nat → ClassId) (ad : Nat → Nat) (k : Nat) (I : Nat → Int) : va_E := match k with
  | 0 => .inr (4, [.ref (ad 1), .ref (ad 2), .ref (ad 3), .ref (ad 4), .int (zI (I 5))])
  | 1 => .inr (0, [.ref (ad 5), .ref (ad 6), .ref (ad 7), .int (zI (I 0))])
  | 2 => .inr (1, [.ref (ad 1), .ref (ad 8), .ref (ad 9), .ref (ad 10), .int (zI (I 1)), .int (zI (I 2))])
  | 3 => .inr (2, [.ref (ad 1), .ref (ad 11), .ref (ad 12), .ref (ad 13), .ref (ad 14), .ref (ad 15), .ref (ad 16), .ref (ad 17), .ref (ad 18), .int (zI (I 3)), .int (zI (I 4))])
  | 4 => .inr (3, [.ref (ad 3), .ref (ad 19), .ref (ad 20)])
  | 8 => ga (ca 3) 21 (fun i => ad (21 + i))
  | _ => ga (ca 4) 40 (fun i => ad (42 + i))
def LT : Ly := (kT, oT)
def kM (k : Nat) : Nat × Nat := if k = 0 then (3, 0) else if k = 9 ∨ k = 11 then (1, 40) else if k = 14 then (1, 1600) else if k = 12 then (2, 1600) else if k = 13 then (0, 1600) else if k = 5 ∨ k = 6 then (0, 20) else (0, 40)
def oM (ca : Nat → ClassId) (ad : Nat → Nat) (k : Nat) (I : Nat → Int) : va_E := match k with
  | 0 => .inr (5, [.int (zI (I 0)), .int (zI (I 1)), .int (zI (I 2)), .ref (ad 1), .ref (ad 2), .ref (ad 3), .ref (ad 4), .int (zI (I 3)), .ref (ad 5), .ref (ad 6), .ref (ad 7), .ref (ad 8), .int (zI (I 4)), .ref (ad 9), .ref (ad 10), .ref (ad 11), .ref (ad 12), .ref (ad 13), .ref (ad 14), .ref (ad 15)])
  | _ => ga (ca 3) 0 (fun i => i)
def LM : Ly := (kM, oM)
theorem kT_row {r : Nat} (h : r < 21) : LT.1 (21 + r) = (0, 40) := by
  show kT (21 + r) = (0, 40)
  unfold kT
  rw [if_neg (by omega), if_neg (by omega), if_neg (by omega)]
theorem kT_tim {r : Nat} : LT.1 (42 + r) = (1, 40) := by
  show kT (42 + r) = (1, 40)
  unfold kT
  rw [if_neg (by omega), if_pos (by omega)]
theorem io_made : IO LT 1 0 3 0 := ⟨rfl, fun ca ad I v => ⟨⟨_, rfl, Nat.le_of_ble_eq_true rfl, rfl⟩, fun j h => by unfold LT oT; dsimp only; split <;> first | rfl | simp_all⟩⟩
theorem io_pairCount : IO LT 2 1 4 1 := ⟨rfl, fun ca ad I v => ⟨⟨_, rfl, Nat.le_of_ble_eq_true rfl, rfl⟩, fun j h => by unfold LT oT; dsimp only; split <;> first | rfl | simp_all⟩⟩
theorem io_kept : IO LT 2 1 5 2 := ⟨rfl, fun ca ad I v => ⟨⟨_, rfl, Nat.le_of_ble_eq_true rfl, rfl⟩, fun j h => by unfold LT oT; dsimp only; split <;> first | rfl | simp_all⟩⟩
theorem io_vmade : IO LT 3 2 9 3 := ⟨rfl, fun ca ad I v => ⟨⟨_, rfl, Nat.le_of_ble_eq_true rfl, rfl⟩, fun j h => by unfold LT oT; dsimp only; split <;> first | rfl | simp_all⟩⟩
theorem io_free : IO LT 3 2 10 4 := ⟨rfl, fun ca ad I v => ⟨⟨_, rfl, Nat.le_of_ble_eq_true rfl, rfl⟩, fun j h => by unfold LT oT; dsimp only; split <;> first | rfl | simp_all⟩⟩
theorem io_fault : IO LT 0 4 4 5 := ⟨rfl, fun ca ad I v => ⟨⟨_, rfl, Nat.le_of_ble_eq_true rfl, rfl⟩, fun j h => by unfold LT oT; dsimp only; split <;> first | rfl | simp_all⟩⟩
theorem jo_code : IO LM 0 5 0 0 := ⟨rfl, fun ca ad I v => ⟨⟨_, rfl, Nat.le_of_ble_eq_true rfl, rfl⟩, fun j h => by unfold LM oM; dsimp only; split <;> first | rfl | simp_all⟩⟩
theorem jo_why : IO LM 0 5 1 1 := ⟨rfl, fun ca ad I v => ⟨⟨_, rfl, Nat.le_of_ble_eq_true rfl, rfl⟩, fun j h => by unfold LM oM; dsimp only; split <;> first | rfl | simp_all⟩⟩
theorem jo_nodes : IO LM 0 5 2 2 := ⟨rfl, fun ca ad I v => ⟨⟨_, rfl, Nat.le_of_ble_eq_true rfl, rfl⟩, fun j h => by unfold LM oM; dsimp only; split <;> first | rfl | simp_all⟩⟩
theorem jo_equations : IO LM 0 5 7 3 := ⟨rfl, fun ca ad I v => ⟨⟨_, rfl, Nat.le_of_ble_eq_true rfl, rfl⟩, fun j h => by unfold LM oM; dsimp only; split <;> first | rfl | simp_all⟩⟩
theorem jo_ready : IO LM 0 5 12 4 := ⟨rfl, fun ca ad I v => ⟨⟨_, rfl, Nat.le_of_ble_eq_true rfl, rfl⟩, fun j h => by unfold LM oM; dsimp only; split <;> first | rfl | simp_all⟩⟩
/-- small numbers all through -/
def Ok (σ : S0) : Prop := (∀ k, Rg (σ.1 k)) ∧ (∀ k i, Rg (σ.2.1 k i)) ∧ (∀ k i, k < 42 → RgL (σ.2.2 k i))
theorem ok_stI {σ : S0} {q : Nat} {v : Int} (h : Ok σ) (hv : Rg v) : Ok (stI σ q v) := by
  refine ⟨fun k => ?_, h.2.1, h.2.2⟩
  show Rg (if k = q then v else σ.1 k)
  split
  · exact hv
  · exact h.1 k
theorem ok_stR {σ : S0} {q : Nat} {g : Int → Int} (h : Ok σ) (hv : ∀ i, Rg (g i)) : Ok (stR σ q g) := by
  refine ⟨h.1, fun k i => ?_, h.2.2⟩
  show Rg ((if k = q then g else σ.2.1 k) i)
  split
  · exact hv i
  · exact h.2.1 k i
theorem ok_stM {σ : S0} {q : Nat} {g : Int → Int} (h : Ok σ) (hv : q < 42 → ∀ i, RgL (g i)) : Ok (stM σ q g) := by
  refine ⟨h.1, h.2.1, fun k i hk => ?_⟩
  show RgL ((if k = q then g else σ.2.2 k) i)
  by_cases e : k = q
  · rw [if_pos e]
    exact hv (by omega) i
  · rw [if_neg e]
    exact h.2.2 k i hk
theorem ok_stF {σ : S0} {q : Nat} {i v : Int} (h : Ok σ) (hv : Rg v) : Ok (stF σ q i v) := ok_stR h (fun j => by
  show Rg (if j = i then v else σ.2.1 q j)
  split
  · exact hv
  · exact h.2.1 q j)
theorem ok_stL {σ : S0} {q : Nat} {i v : Int} (h : Ok σ) (hv : RgL v) : Ok (stL σ q i v) := ok_stM h (fun hq j => by
  show RgL (if j = i then v else σ.2.2 q j)
  split
  · exact hv
  · exact h.2.2 q j hq)
theorem ok_stT {σ : S0} {q : Nat} {i v : Int} (h : Ok σ) (hq : 42 ≤ q) : Ok (stL σ q i v) := ok_stM h (fun hq' => by omega)
/-- truth as a number -/
def bz (P : Prop) [Decidable P] : Int := if P then 1 else 0
theorem bz_t {P : Prop} [Decidable P] (h : P) : bz P = 1 := if_pos h
theorem bz_f {P : Prop} [Decidable P] (h : ¬ P) : bz P = 0 := if_neg h
theorem bz_rg (P : Prop) [Decidable P] : Rg (bz P) := by
  unfold bz
  split <;> exact ⟨by decide, by decide⟩
theorem bz_0 {P : Prop} [Decidable P] (h : bz P = 0) : ¬ P := fun q => by rw [bz_t q] at h; omega
theorem bz_1 {P : Prop} [Decidable P] (h : bz P ≠ 0) : P := Classical.byContradiction fun q => h (bz_f q)
section XB
variable {κ : Kx} {R : Room} {own : String} {cc : ByteArray} {nL : Nat} {w : va_W} {k n pc : Nat} {lv : List (Nat × Value)} {st : List Value}
theorem x_ifb_eq {P : Prop} [Decidable P] {off : Int} {tgt : Nat} (d : decode cc pc = .ok (.ifCond .eq off, 3)) (ht : (pc : Int) + off = (tgt : Int)) (kt : ¬ P → X κ R own cc nL w k n tgt lv st) (kf : P → X κ R own cc nL w k n (pc + 3) lv st) : X κ R own cc nL w k n pc lv (.int (zI (bz P)) :: st) :=
  x_if_eq d ht (bz_rg P) (fun h => kt (bz_0 h)) (fun h => kf (bz_1 h))
theorem x_ifb_ne {P : Prop} [Decidable P] {off : Int} {tgt : Nat} (d : decode cc pc = .ok (.ifCond .ne off, 3)) (ht : (pc : Int) + off = (tgt : Int)) (kt : P → X κ R own cc nL w k n tgt lv st) (kf : ¬ P → X κ R own cc nL w k n (pc + 3) lv st) : X κ R own cc nL w k n pc lv (.int (zI (bz P)) :: st) :=
  x_if_ne d ht (bz_rg P) (fun h => kt (bz_1 h)) (fun h => kf (bz_0 h))
end XB
