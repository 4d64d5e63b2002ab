/-! sums over 0 .. n - 1, and maps of classes -/
def sm (f : Int → Int) : Nat → Int
  | 0 => 0
  | n + 1 => sm f n + f (n : Int)
theorem sm_congr {f g : Int → Int} : ∀ {n : Nat}, (∀ x : Int, 0 ≤ x → x < (n : Int) → f x = g x) → sm f n = sm g n
  | 0, _ => rfl
  | n + 1, h => by
    show sm f n + f n = sm g n + g n
    rw [sm_congr (n := n) (fun x h0 h1 => h x h0 (by omega)), h n (by omega) (by omega)]
theorem sm_le {f g : Int → Int} : ∀ {n : Nat}, (∀ x : Int, 0 ≤ x → x < (n : Int) → f x ≤ g x) → sm f n ≤ sm g n
  | 0, _ => Int.le_refl _
  | n + 1, h => by
    show sm f n + f n ≤ sm g n + g n
    have h1 := sm_le (n := n) (fun x h0 h1 => h x h0 (by omega))
    have h2 := h n (by omega) (by omega)
    omega
theorem sm_const (c : Int) : ∀ n : Nat, sm (fun _ => c) n = c * (n : Int)
  | 0 => by simp [sm]
  | n + 1 => by
    show sm (fun _ => c) n + c = c * ((n + 1 : Nat) : Int)
    rw [sm_const c n, Int.natCast_add, Int.mul_add]
    simp
theorem sm_nonneg {f : Int → Int} {n : Nat} (h : ∀ x : Int, 0 ≤ x → x < (n : Int) → 0 ≤ f x) : 0 ≤ sm f n := by
  have h1 := sm_le (f := fun _ => 0) (g := f) (n := n) h
  rw [sm_const] at h1
  omega
theorem sm_succ (f : Int → Int) {x : Int} (h : 0 ≤ x) : sm f (x + 1).toNat = sm f x.toNat + f x := by
  have e : (x + 1).toNat = x.toNat + 1 := by omega
  rw [e]
  show sm f x.toNat + f (x.toNat : Int) = _
  rw [Int.toNat_of_nonneg h]
/-- one summand less by one -/
theorem sm_dec {f g : Int → Int} {i : Int} : ∀ {n : Nat}, 0 ≤ i → i < (n : Int) → (∀ x : Int, 0 ≤ x → x < (n : Int) → x ≠ i → f x = g x) → f i + 1 = g i → sm f n + 1 = sm g n
  | 0, h0, h1, _, _ => by omega
  | n + 1, h0, h1, h, hi => by
    show sm f n + f n + 1 = sm g n + g n
    by_cases e : i = (n : Int)
    · have h2 := sm_congr (f := f) (g := g) (n := n) (fun x a b => h x a (by omega) (by omega))
      rw [e] at hi
      omega
    · have h2 := sm_dec (f := f) (g := g) (i := i) (n := n) h0 (by omega) (fun x a b c => h x a (by omega) c) hi
      have h3 := h n (by omega) (by omega) (by omega)
      omega
theorem sm_pos {f : Int → Int} {n : Nat} {i : Int} (h : ∀ x : Int, 0 ≤ x → x < (n : Int) → 0 ≤ f x) (h0 : 0 ≤ i) (h1 : i < (n : Int)) (hi : 1 ≤ f i) : 1 ≤ sm f n := by
  have h2 := sm_dec (f := fun x => if x = i then f i - 1 else f x) (g := f) (i := i) (n := n) h0 h1 (fun x _ _ c => if_neg c) (by simp)
  have h3 : 0 ≤ sm (fun x => if x = i then f i - 1 else f x) n := sm_nonneg (fun x a b => by
    show 0 ≤ if x = i then f i - 1 else f x
    split
    · omega
    · exact h x a b)
  omega
def mvF (row : Int → Int) (p q i : Int) : Int → Int := fun j => if 0 ≤ j ∧ j < i ∧ row j = p then q else row j
theorem mvF_0 (row : Int → Int) (p q : Int) : mvF row p q 0 = row := by
  funext j
  unfold mvF
  rw [if_neg (by omega)]
theorem mvF_ne {row : Int → Int} {p q i : Int} (h : row i ≠ p) : mvF row p q (i + 1) = mvF row p q i := by
  funext j
  unfold mvF
  by_cases e : 0 ≤ j ∧ j < i ∧ row j = p
  · rw [if_pos e, if_pos (by omega)]
  · rw [if_neg e, if_neg]
    intro c
    by_cases hj : j = i
    · subst hj; exact h c.2.2
    · exact e ⟨c.1, by omega, c.2.2⟩
theorem mvF_eq {row : Int → Int} {p q i : Int} (h0 : 0 ≤ i) (h : row i = p) : mvF row p q (i + 1) = ui (mvF row p q i) i q := by
  funext j
  unfold mvF ui
  by_cases hj : j = i
  · subst hj
    rw [if_pos rfl, if_pos (by omega)]
  · rw [if_neg hj]
    dsimp only
    by_cases e : 0 ≤ j ∧ j < i ∧ row j = p
    · rw [if_pos e, if_pos (by omega)]
    · rw [if_neg e, if_neg]
      intro c
      exact e ⟨c.1, by omega, c.2.2⟩
theorem mvF_at (row : Int → Int) (p q i : Int) : mvF row p q i i = row i := by
  unfold mvF
  rw [if_neg (by omega)]
theorem stR_self (σ : S0) (q : Nat) : stR σ q (σ.2.1 q) = σ := by
  obtain ⟨I, F, G⟩ := σ
  have h : (fun k => if k = q then F q else F k) = F := by
    funext k
    by_cases e : k = q
    · rw [if_pos e, e]
    · rw [if_neg e]
  show (I, (fun k => if k = q then F q else F k), G) = (I, F, G)
  rw [h]
theorem stR_at (σ : S0) (q : Nat) (g : Int → Int) : (stR σ q g).2.1 q = g := by
  show (if q = q then g else σ.2.1 q) = g
  rw [if_pos rfl]
theorem stR_ne (σ : S0) {q k : Nat} (g : Int → Int) (h : k ≠ q) : (stR σ q g).2.1 k = σ.2.1 k := by
  show (if k = q then g else σ.2.1 k) = σ.2.1 k
  rw [if_neg h]
theorem stR_stR (σ : S0) (q : Nat) (g g' : Int → Int) : stR (stR σ q g) q g' = stR σ q g' := by
  have h : (fun k => if k = q then g' else (stR σ q g).2.1 k) = fun k => if k = q then g' else σ.2.1 k := by
    funext k
    by_cases e : k = q
    · rw [if_pos e, if_pos e]
    · rw [if_neg e, if_neg e, stR_ne σ g e]
  show (σ.1, (fun k => if k = q then g' else (stR σ q g).2.1 k), σ.2.2) = _
  rw [h]
  rfl
/-- how many stand for themselves -/
def reps (row : Int → Int) (n : Int) : Int := sm (fun x => bz (row x = x)) n.toNat
theorem bz_01 (P : Prop) [Decidable P] : 0 ≤ bz P ∧ bz P ≤ 1 := by
  unfold bz
  split <;> omega
theorem reps_le (row : Int → Int) {n : Int} (h : 0 ≤ n) : 0 ≤ reps row n ∧ reps row n ≤ n := by
  constructor
  · exact sm_nonneg (fun x _ _ => (bz_01 _).1)
  · have h1 := sm_le (f := fun x => bz (row x = x)) (g := fun _ => 1) (n := n.toNat) (fun x _ _ => (bz_01 _).2)
    rw [sm_const] at h1
    unfold reps
    omega
theorem bz_congr {P Q : Prop} [Decidable P] [Decidable Q] (h : P ↔ Q) : bz P = bz Q := by
  by_cases q : Q
  · rw [bz_t q, bz_t (h.mpr q)]
  · rw [bz_f q, bz_f (fun p => q (h.mp p))]
theorem reps_mv {row : Int → Int} {n p q : Int} (hp0 : 0 ≤ p) (hp1 : p < n) (hp : row p = p) (hq : row q = q) (hne : p ≠ q) : reps (mvF row p q n) n + 1 = reps row n := by
  refine sm_dec (i := p) hp0 (by omega) (fun x h0 h1 hx => bz_congr ?_) ?_
  · unfold mvF
    by_cases e : row x = p
    · rw [if_pos ⟨h0, by omega, e⟩]
      constructor
      · intro h; subst h; omega
      · intro h; omega
    · rw [if_neg (fun c => e c.2.2)]
  · have h1 : mvF row p q n p = q := if_pos ⟨hp0, hp1, hp⟩
    have h2 : bz (mvF row p q n p = p) = 0 := bz_f (by rw [h1]; omega)
    have h3 : bz (row p = p) = 1 := bz_t hp
    show bz (mvF row p q n p = p) + 1 = bz (row p = p)
    omega
