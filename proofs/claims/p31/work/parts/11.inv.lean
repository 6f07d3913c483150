/-! the class's state: what bounds its numbers; searching -/
def CI (σ : ST) : Prop := (1 ≤ σ 2 0 ∧ σ 2 0 ≤ 12) ∧ (0 ≤ σ 2 1 ∧ σ 2 1 < 12) ∧ (∀ k, 0 ≤ σ 3 k ∧ σ 3 k ≤ 5) ∧ (∀ k, 0 ≤ σ 4 k ∧ σ 4 k ≤ 99) ∧ (∀ k, 0 ≤ σ 5 k ∧ σ 5 k < 12) ∧ (∀ k, -1 ≤ σ 6 k ∧ σ 6 k < 12 ∧ (σ 3 k = 3 → 0 ≤ σ 6 k)) ∧ (∀ k, 0 ≤ σ 7 k ∧ σ 7 k ≤ 8) ∧ (∀ k, 0 ≤ σ 8 k ∧ σ 8 k < 12) ∧ (∀ k, 0 ≤ σ 9 k ∧ σ 9 k < 8) ∧ (0 ≤ σ 10 0 ∧ σ 10 0 ≤ 12) ∧ (0 ≤ σ 10 1 ∧ σ 10 1 ≤ 12) ∧ (∀ k, 0 ≤ σ 11 k ∧ σ 11 k < 12) ∧ (∀ k, 0 ≤ σ 13 k ∧ σ 13 k ≤ 99999) ∧ (∀ k, 0 ≤ σ 14 k ∧ σ 14 k < 12)
theorem CI.sz {σ : ST} (h : CI σ) : 1 ≤ σ 2 0 ∧ σ 2 0 ≤ 12 := h.1
theorem CI.mk {σ : ST} (h : CI σ) : 0 ≤ σ 2 1 ∧ σ 2 1 < 12 := h.2.1
theorem CI.ch {σ : ST} (h : CI σ) (k : Nat) : 0 ≤ σ 3 k ∧ σ 3 k ≤ 5 := h.2.2.1 k
theorem CI.nu {σ : ST} (h : CI σ) (k : Nat) : 0 ≤ σ 4 k ∧ σ 4 k ≤ 99 := h.2.2.2.1 k
theorem CI.so {σ : ST} (h : CI σ) (k : Nat) : 0 ≤ σ 5 k ∧ σ 5 k < 12 := h.2.2.2.2.1 k
theorem CI.ad {σ : ST} (h : CI σ) (k : Nat) : -1 ≤ σ 6 k ∧ σ 6 k < 12 ∧ (σ 3 k = 3 → 0 ≤ σ 6 k) := h.2.2.2.2.2.1 k
theorem CI.wd {σ : ST} (h : CI σ) (k : Nat) : 0 ≤ σ 7 k ∧ σ 7 k ≤ 8 := h.2.2.2.2.2.2.1 k
theorem CI.co {σ : ST} (h : CI σ) (k : Nat) : 0 ≤ σ 8 k ∧ σ 8 k < 12 := h.2.2.2.2.2.2.2.1 k
theorem CI.le {σ : ST} (h : CI σ) (k : Nat) : 0 ≤ σ 9 k ∧ σ 9 k < 8 := h.2.2.2.2.2.2.2.2.1 k
theorem CI.ro {σ : ST} (h : CI σ) : 0 ≤ σ 10 0 ∧ σ 10 0 ≤ 12 := h.2.2.2.2.2.2.2.2.2.1
theorem CI.cu {σ : ST} (h : CI σ) : 0 ≤ σ 10 1 ∧ σ 10 1 ≤ 12 := h.2.2.2.2.2.2.2.2.2.2.1
theorem CI.rs {σ : ST} (h : CI σ) (k : Nat) : 0 ≤ σ 11 k ∧ σ 11 k < 12 := h.2.2.2.2.2.2.2.2.2.2.2.1 k
theorem CI.va {σ : ST} (h : CI σ) (k : Nat) : 0 ≤ σ 13 k ∧ σ 13 k ≤ 99999 := h.2.2.2.2.2.2.2.2.2.2.2.2.1 k
theorem CI.he {σ : ST} (h : CI σ) (k : Nat) : 0 ≤ σ 14 k ∧ σ 14 k < 12 := h.2.2.2.2.2.2.2.2.2.2.2.2.2 k
/-- the first place of a below n, or -1 -/
def fnd (f : Nat → Int) (a : Int) : Nat → Int
  | 0 => -1
  | n + 1 => if fnd f a n = -1 then (if f n = a then (n : Int) else -1) else fnd f a n
theorem fnd_no {f : Nat → Int} {a : Int} : ∀ {n : Nat}, (∀ j, j < n → f j ≠ a) → fnd f a n = -1
  | 0, _ => rfl
  | n + 1, h => by
    have h1 := fnd_no (n := n) (fun j hj => h j (by omega))
    unfold fnd
    rw [if_pos h1, if_neg (h n (by omega))]
theorem fnd_at {f : Nat → Int} {a : Int} {k : Nat} (hk : f k = a) (ho : ∀ j, j < k → f j ≠ a) : ∀ {n : Nat}, k < n → fnd f a n = (k : Int)
  | 0, h => by omega
  | n + 1, h => by
    unfold fnd
    by_cases e : k = n
    · subst e
      rw [if_pos (fnd_no ho), if_pos hk]
    · have h1 := fnd_at hk ho (n := n) (by omega)
      rw [h1, if_neg (by omega)]
theorem fnd_or (f : Nat → Int) (a : Int) : ∀ n : Nat, ((∀ j, j < n → f j ≠ a) ∧ fnd f a n = -1) ∨ ∃ k, k < n ∧ f k = a ∧ (∀ j, j < k → f j ≠ a) ∧ fnd f a n = (k : Int)
  | 0 => Or.inl ⟨fun j h => by omega, rfl⟩
  | n + 1 => by
    rcases fnd_or f a n with ⟨h1, h2⟩ | ⟨k, h1, h2, h3, h4⟩
    · by_cases e : f n = a
      · exact Or.inr ⟨n, by omega, e, h1, fnd_at e h1 (by omega)⟩
      · have h : ∀ j, j < n + 1 → f j ≠ a := fun j hj => by
          by_cases q : j = n
          · rw [q]; exact e
          · exact h1 j (by omega)
        exact Or.inl ⟨h, fnd_no h⟩
    · exact Or.inr ⟨k, by omega, h2, h3, fnd_at h2 h3 (by omega)⟩
theorem fnd_rng (f : Nat → Int) (a : Int) (n : Nat) : -1 ≤ fnd f a n ∧ fnd f a n < n := by
  rcases fnd_or f a n with ⟨-, h⟩ | ⟨k, h1, -, -, h⟩ <;> omega
theorem fnd_hit {f : Nat → Int} {a : Int} {n : Nat} (h : fnd f a n ≠ -1) : f (fnd f a n).toNat = a := by
  rcases fnd_or f a n with ⟨-, h1⟩ | ⟨k, h1, h2, -, h4⟩
  · exact absurd h1 h
  · rw [h4]; exact h2
theorem fnd_congr {f g : Nat → Int} {a : Int} : ∀ {n : Nat}, (∀ j, j < n → f j = g j) → fnd f a n = fnd g a n
  | 0, _ => rfl
  | n + 1, h => by
    unfold fnd
    rw [fnd_congr (n := n) (fun j hj => h j (by omega)), h n (by omega)]
/-- the place of a letter in a shape, of a column in a shape -/
def plc (σ : ST) (s : Nat) (a : Int) : Int := fnd (fun k => σ 9 (8 * s + k)) a (σ 7 s).toNat
def pcl (σ : ST) (s : Nat) (c : Int) : Int := fnd (fun k => σ 8 (8 * s + k)) c (σ 7 s).toNat
theorem plc_rng {σ : ST} (hI : CI σ) (s : Nat) (a : Int) : -1 ≤ plc σ s a ∧ plc σ s a < σ 7 s ∧ plc σ s a < 8 := by
  have h := fnd_rng (fun k => σ 9 (8 * s + k)) a (σ 7 s).toNat
  have hw := hI.wd s
  unfold plc
  omega
theorem pcl_rng {σ : ST} (hI : CI σ) (s : Nat) (a : Int) : -1 ≤ pcl σ s a ∧ pcl σ s a < σ 7 s ∧ pcl σ s a < 8 := by
  have h := fnd_rng (fun k => σ 8 (8 * s + k)) a (σ 7 s).toNat
  have hw := hI.wd s
  unfold pcl
  omega
