/-! the relation of the class's state c and the model's row 111 -/
def stR (c σ : ST) (s : Nat) : Prop :=
  (1 ≤ c 3 (s + 1) ∧ c 3 (s + 1) ≤ 5) ∧
  (c 3 (s + 1) ≤ 3 → c 7 (s + 1) = c 7 s + 1 ∧ (∀ k : Nat, (k : Int) < c 7 s → c 8 (8 * (s + 1) + k) = c 8 (8 * s + k)) ∧ c 8 (8 * (s + 1) + (c 7 s).toNat) = (s : Int) + 1) ∧
  (c 3 (s + 1) = 1 → gM σ ((s : Int) + 1) 18 = c 4 (s + 1)) ∧
  ((c 3 (s + 1) = 2 ∨ c 3 (s + 1) = 3) → gM σ ((s : Int) + 1) 18 < c 7 s ∧ c 5 (s + 1) = c 8 (8 * s + (gM σ ((s : Int) + 1) 18).toNat)) ∧
  (c 3 (s + 1) = 3 → gM σ ((s : Int) + 1) 19 < c 7 s ∧ c 6 (s + 1) = c 8 (8 * s + (gM σ ((s : Int) + 1) 19).toNat)) ∧
  (c 3 (s + 1) = 4 → c 7 (s + 1) = c 7 s - 1 ∧ gM σ ((s : Int) + 1) 18 < c 7 s ∧ c 5 (s + 1) = c 8 (8 * s + (gM σ ((s : Int) + 1) 18).toNat) ∧ gM σ ((s : Int) + 1) 19 = c 4 (s + 1) ∧ ∀ k : Nat, (k : Int) < c 7 s - 1 → c 8 (8 * (s + 1) + k) = if (k : Int) < gM σ ((s : Int) + 1) 18 then c 8 (8 * s + k) else c 8 (8 * s + (k + 1))) ∧
  (c 3 (s + 1) = 5 → c 7 (s + 1) = c 7 s ∧ ∀ k : Nat, (k : Int) < c 7 s → c 8 (8 * (s + 1) + k) = c 8 (8 * s + k))
def Rel (c σ : ST) : Prop :=
  CI c ∧ LI c ∧ MJ σ ∧
  (σ 111 0 = c 2 0 ∧ σ 111 1 = c 2 1 ∧ σ 111 2 = c 10 0 ∧ σ 111 3 = c 10 1 ∧ σ 111 4 = c 10 2 ∧ σ 111 5 = c 10 3) ∧
  (∀ r : Nat, r < 4 → σ 111 (6 + r) = c 14 r) ∧
  (∀ s : Nat, (s : Int) < c 2 0 → gM σ s 0 = c 7 s ∧ gM σ s 17 = c 3 s) ∧
  (∀ s k : Nat, (s : Int) < c 2 0 → (k : Int) < c 7 s → gM σ s (1 + (k : Int)) = c 8 (8 * s + k) ∧ gM σ s (9 + (k : Int)) = c 9 (8 * s + k) ∧ c 8 (8 * s + k) ≤ (s : Int)) ∧
  (∀ s i j : Nat, (s : Int) < c 2 0 → i < j → (j : Int) < c 7 s → c 8 (8 * s + i) ≠ c 8 (8 * s + j)) ∧
  c 7 0 = 0 ∧
  (∀ s : Nat, (s : Int) + 1 < c 2 0 → stR c σ s) ∧
  (∀ r : Nat, (r : Int) < c 10 0 → oM σ r 0 = c 11 r ∧ oM σ r 1 = c 12 r ∧ c 11 r < c 2 0) ∧
  (∀ r k : Nat, (r : Int) < c 10 0 → (k : Int) < c 7 (c 11 r).toNat → oM σ r (2 + (k : Int)) = c 13 (12 * r + (c 8 (8 * (c 11 r).toNat + k)).toNat))
theorem Rel.ci {c σ : ST} (h : Rel c σ) : CI c := h.1
theorem Rel.li {c σ : ST} (h : Rel c σ) : LI c := h.2.1
theorem Rel.mj {c σ : ST} (h : Rel c σ) : MJ σ := h.2.2.1
theorem Rel.nm {c σ : ST} (h : Rel c σ) : σ 111 0 = c 2 0 ∧ σ 111 1 = c 2 1 ∧ σ 111 2 = c 10 0 ∧ σ 111 3 = c 10 1 ∧ σ 111 4 = c 10 2 ∧ σ 111 5 = c 10 3 := h.2.2.2.1
theorem Rel.he {c σ : ST} (h : Rel c σ) (r : Nat) (a : r < 4) : σ 111 (6 + r) = c 14 r := h.2.2.2.2.1 r a
theorem Rel.wd {c σ : ST} (h : Rel c σ) (s : Nat) (a : (s : Int) < c 2 0) : gM σ s 0 = c 7 s ∧ gM σ s 17 = c 3 s := h.2.2.2.2.2.1 s a
theorem Rel.cl {c σ : ST} (h : Rel c σ) (s k : Nat) (a : (s : Int) < c 2 0) (b : (k : Int) < c 7 s) : gM σ s (1 + (k : Int)) = c 8 (8 * s + k) ∧ gM σ s (9 + (k : Int)) = c 9 (8 * s + k) ∧ c 8 (8 * s + k) ≤ (s : Int) := h.2.2.2.2.2.2.1 s k a b
theorem Rel.ne {c σ : ST} (h : Rel c σ) (s i j : Nat) (a : (s : Int) < c 2 0) (b : i < j) (d : (j : Int) < c 7 s) : c 8 (8 * s + i) ≠ c 8 (8 * s + j) := h.2.2.2.2.2.2.2.1 s i j a b d
theorem Rel.w0 {c σ : ST} (h : Rel c σ) : c 7 0 = 0 := h.2.2.2.2.2.2.2.2.1
theorem Rel.st {c σ : ST} (h : Rel c σ) (s : Nat) (a : (s : Int) + 1 < c 2 0) : stR c σ s := h.2.2.2.2.2.2.2.2.2.1 s a
theorem Rel.ro {c σ : ST} (h : Rel c σ) (r : Nat) (a : (r : Int) < c 10 0) : oM σ r 0 = c 11 r ∧ oM σ r 1 = c 12 r ∧ c 11 r < c 2 0 := h.2.2.2.2.2.2.2.2.2.2.1 r a
theorem Rel.va {c σ : ST} (h : Rel c σ) (r k : Nat) (a : (r : Int) < c 10 0) (b : (k : Int) < c 7 (c 11 r).toNat) : oM σ r (2 + (k : Int)) = c 13 (12 * r + (c 8 (8 * (c 11 r).toNat + k)).toNat) := h.2.2.2.2.2.2.2.2.2.2.2 r k a b
theorem stR_cg {c σ σ' : ST} (e : σ' 111 = σ 111) {s : Nat} (h : stR c σ s) : stR c σ' s := by
  unfold stR at h ⊢
  simp only [gM_cg e]
  exact h
theorem Rel_cg {c σ σ' : ST} (e : σ' 111 = σ 111) (h : Rel c σ) : Rel c σ' := by
  obtain ⟨h1, h2, h3, h4, h5, h6, h7, h8, h9, h10, h11, h12⟩ := h
  refine ⟨h1, h2, MJ_cg e h3, by rw [e]; exact h4, by rw [e]; exact h5, ?_, ?_, h8, h9, fun s a => stR_cg e (h10 s a), ?_, ?_⟩
  · simp only [gM_cg e]; exact h6
  · simp only [gM_cg e]; exact h7
  · simp only [oM_cg e]; exact h11
  · simp only [oM_cg e]; exact h12
/-- the values v, by column, are the model's values at hand, by place of shape s -/
def VR (c σ : ST) (s : Nat) (v : Nat → Int) (ζ : ST) : Prop := ζ 111 = σ 111 ∧ ζ 110 7 = c 7 s ∧ ∀ k : Nat, (k : Int) < c 7 s → ζ 114 k = v (c 8 (8 * s + k)).toNat
theorem upF_ne {v : Nat → Int} {k j : Nat} (x : Int) (h : j ≠ k) : upF v k x j = v j := if_neg h
theorem upF_at (v : Nat → Int) (k : Nat) (x : Int) : upF v k x k = x := if_pos rfl
theorem VR_add {c σ : ST} (h : Rel c σ) {s : Nat} (hs : (s : Int) + 1 < c 2 0) {v : Nat → Int} {ζ : ST} (hv : VR c σ s v ζ) (h3 : c 3 (s + 1) ≤ 3) (x : Int) : VR c σ (s + 1) (upF v (s + 1) x) (up2 (up2 ζ 114 (ζ 110 7).toNat x) 110 7 (ζ 110 7 + 1)) := by
  obtain ⟨z1, z7, zv⟩ := hv
  obtain ⟨-, q, -⟩ := h.st s hs
  obtain ⟨q1, q2, q3⟩ := q h3
  have hw := h.ci.wd s
  refine ⟨by rw [up2_off _ (by decide), up2_off _ (by decide), z1], by rw [up2_at, z7, q1], fun k hk => ?_⟩
  rw [up2_ne _ _ _ _ (by decide), z7]
  by_cases e : (k : Int) < c 7 s
  · rw [up2_el _ _ _ (by omega), zv k e, q2 k e]
    have hb := (h.cl s k (by omega) e).2.2
    rw [upF_ne _ (by omega)]
  · have ek : k = (c 7 s).toNat := by omega
    subst ek
    rw [up2_at, q3, show ((s : Int) + 1).toNat = s + 1 by omega, upF_at]
theorem cl12 {c : ST} (h : CI c) (i : Nat) : (c 8 i).toNat < 12 := by have := h.co i; omega
theorem VR_fw {c σ : ST} (h : Rel c σ) {s : Nat} (hs : (s : Int) + 1 < c 2 0) {v : Nat → Int} (hb : bdV v) {ζ : ST} (hv : VR c σ s v ζ) : okV ζ ((s : Int) + 1) ∧ VR c σ (s + 1) (cfS c v (s + 1)) (gvM ζ ((s : Int) + 1)) := by
  have hv0 := hv
  obtain ⟨z1, z7, zv⟩ := hv
  obtain ⟨q0, q1, q2, q3, q4, q5, q6⟩ := h.st s hs
  have hw := h.ci.wd s
  have hw1 := h.ci.wd (s + 1)
  have e17 : gM ζ ((s : Int) + 1) 17 = c 3 (s + 1) := by rw [gM_cg z1]; exact (h.wd (s + 1) (by omega)).2
  have e18 : gM ζ ((s : Int) + 1) 18 = gM σ ((s : Int) + 1) 18 := gM_cg z1 _ _
  have e19 : gM ζ ((s : Int) + 1) 19 = gM σ ((s : Int) + 1) 19 := gM_cg z1 _ _
  have hz := h.nm
  have g := h.mj.ch ((s : Int) + 1) (by omega) (by omega)
  have bd : ∀ x : Int, 0 ≤ x → x < c 7 s → ζ 114 x.toNat = v (c 8 (8 * s + x.toNat)).toNat ∧ 0 ≤ ζ 114 x.toNat ∧ ζ 114 x.toNat ≤ 99999 := fun x x0 x1 => by
    have e := zv x.toNat (by omega)
    have b := hb _ (cl12 h.ci (8 * s + x.toNat))
    rw [e]
    exact ⟨rfl, b⟩
  constructor
  · unfold okV
    rw [e17, e18, e19, z7]
    refine ⟨by omega, fun _ => by omega, fun hh => by have := q3 hh; omega, fun hh => ?_, fun hh => (q5 hh).2.1⟩
    have a1 := q3 (Or.inr hh)
    have a2 := q4 hh
    have b1 := (bd _ g.2.2.1 a1.1).2
    have b2 := (bd _ g.2.2.2.2.1 a2.1).2
    exact ⟨by omega, b1, b2⟩
  · unfold gvM cfS
    rw [e17, e18, e19]
    rcases (show c 3 (s + 1) = 1 ∨ c 3 (s + 1) = 2 ∨ c 3 (s + 1) = 3 ∨ c 3 (s + 1) = 4 ∨ c 3 (s + 1) = 5 by omega) with e | e | e | e | e
    · rw [if_pos e, if_pos e, q2 e]
      exact VR_add h hs hv0 (by omega) _
    · have n1 : ¬ c 3 (s + 1) = 1 := by omega
      rw [if_neg n1, if_neg n1, if_pos e, if_pos e]
      have a1 := q3 (Or.inl e)
      rw [(bd _ g.2.2.1 a1.1).1, a1.2]
      exact VR_add h hs hv0 (by omega) _
    · have n1 : ¬ c 3 (s + 1) = 1 := by omega
      have n2 : ¬ c 3 (s + 1) = 2 := by omega
      rw [if_neg n1, if_neg n1, if_neg n2, if_neg n2, if_pos e, if_pos e]
      have a1 := q3 (Or.inr e)
      have a2 := q4 e
      rw [(bd _ g.2.2.1 a1.1).1, (bd _ g.2.2.2.2.1 a2.1).1, a1.2, a2.2]
      exact VR_add h hs hv0 (by omega) _
    · have n1 : ¬ c 3 (s + 1) = 1 := by omega
      have n2 : ¬ c 3 (s + 1) = 2 := by omega
      have n3 : ¬ c 3 (s + 1) = 3 := by omega
      rw [if_neg n1, if_neg n1, if_neg n2, if_neg n2, if_neg n3, if_neg n3, if_pos e]
      obtain ⟨a1, a2, a3, a4, a5⟩ := q5 e
      refine ⟨by rw [up2_off _ (by decide), cpR_off _ _ _ _ (by decide), z1], by rw [up2_at, z7, a1], fun k hk => ?_⟩
      rw [up2_ne _ _ _ _ (by decide), z7, a5 k (by omega)]
      by_cases f : (k : Int) < gM σ ((s : Int) + 1) 18
      · rw [if_pos f, cpR_out _ _ _ _ (by omega)]
        exact zv k (by omega)
      · rw [if_neg f]
        unfold cpR
        rw [if_pos ⟨rfl, by omega, by omega⟩]
        show ζ 114 ((gM σ ((s : Int) + 1) 18).toNat + (k - (gM σ ((s : Int) + 1) 18).toNat) + 1) = _
        rw [show (gM σ ((s : Int) + 1) 18).toNat + (k - (gM σ ((s : Int) + 1) 18).toNat) + 1 = k + 1 by omega]
        exact zv (k + 1) (by omega)
    · have n1 : ¬ c 3 (s + 1) = 1 := by omega
      have n2 : ¬ c 3 (s + 1) = 2 := by omega
      have n3 : ¬ c 3 (s + 1) = 3 := by omega
      have n4 : ¬ c 3 (s + 1) = 4 := by omega
      rw [if_neg n1, if_neg n1, if_neg n2, if_neg n2, if_neg n3, if_neg n3, if_neg n4]
      obtain ⟨a1, a2⟩ := q6 e
      refine ⟨z1, by rw [z7, a1], fun k hk => ?_⟩
      rw [a2 k (by omega)]
      exact zv k (by omega)
theorem VR_bw {c σ : ST} (h : Rel c σ) {s : Nat} (hs : (s : Int) + 1 < c 2 0) {v : Nat → Int} {ζ : ST} (hv : VR c σ (s + 1) v ζ) : okW ζ ((s : Int) + 1) ∧ VR c σ s (cbS c v (s + 1)) (gbM ζ ((s : Int) + 1)) := by
  obtain ⟨z1, z7, zv⟩ := hv
  obtain ⟨q0, q1, q2, q3, q4, q5, q6⟩ := h.st s hs
  have hw := h.ci.wd s
  have hw1 := h.ci.wd (s + 1)
  have e17 : gM ζ ((s : Int) + 1) 17 = c 3 (s + 1) := by rw [gM_cg z1]; exact (h.wd (s + 1) (by omega)).2
  have e18 : gM ζ ((s : Int) + 1) 18 = gM σ ((s : Int) + 1) 18 := gM_cg z1 _ _
  have e19 : gM ζ ((s : Int) + 1) 19 = gM σ ((s : Int) + 1) 19 := gM_cg z1 _ _
  have hz := h.nm
  have g := h.mj.ch ((s : Int) + 1) (by omega) (by omega)
  constructor
  · unfold okW
    rw [e17, e18, z7]
    exact ⟨by omega, fun hh => by have := q5 hh; omega⟩
  · unfold gbM cbS
    rw [e17, e18, e19]
    by_cases e3 : c 3 (s + 1) < 4
    · rw [if_pos e3, if_neg (by omega)]
      obtain ⟨a1, a2, a3⟩ := q1 (by omega)
      refine ⟨by rw [up2_off _ (by decide), z1], by rw [up2_at, z7, a1]; omega, fun k hk => ?_⟩
      rw [up2_ne _ _ _ _ (by decide), zv k (by omega), a2 k hk]
    · rw [if_neg e3]
      by_cases e4 : c 3 (s + 1) = 4
      · rw [if_pos e4, if_pos e4]
        obtain ⟨a1, a2, a3, a4, a5⟩ := q5 e4
        refine ⟨by rw [up2_off _ (by decide), up2_off _ (by decide)]; unfold bkR; rw [cpR_off _ _ _ _ (by decide), z1], by rw [up2_at, z7, a1]; omega, fun k hk => ?_⟩
        rw [up2_ne _ _ _ _ (by decide), z7, a3, a4]
        have hkc := h.ci.co (8 * s + k)
        have hgc := h.ci.co (8 * s + (gM σ ((s : Int) + 1) 18).toNat)
        rcases Nat.lt_trichotomy k (gM σ ((s : Int) + 1) 18).toNat with f | f | f
        · have hn := h.ne s k (gM σ ((s : Int) + 1) 18).toNat (by omega) f (by omega)
          rw [up2_el _ _ _ (by omega), upF_ne _ (by omega)]
          unfold bkR
          rw [cpR_out _ _ _ _ (by omega), zv k (by omega), a5 k (by omega), if_pos (by omega)]
        · subst f
          rw [up2_at, upF_at]
        · have hn := h.ne s (gM σ ((s : Int) + 1) 18).toNat k (by omega) f (by omega)
          rw [up2_el _ _ _ (by omega), upF_ne _ (by omega)]
          unfold bkR cpR
          rw [if_pos ⟨rfl, by omega, by omega⟩]
          show ζ 114 ((gM σ ((s : Int) + 1) 18).toNat + (k - (gM σ ((s : Int) + 1) 18 + 1).toNat)) = _
          rw [show (gM σ ((s : Int) + 1) 18).toNat + (k - (gM σ ((s : Int) + 1) 18 + 1).toNat) = k - 1 by omega, zv (k - 1) (by omega), a5 (k - 1) (by omega), if_neg (by omega), show k - 1 + 1 = k by omega]
      · rw [if_neg e4, if_neg e4]
        obtain ⟨a1, a2⟩ := q6 (by omega)
        refine ⟨z1, by rw [z7, a1], fun k hk => ?_⟩
        rw [zv k (by omega), a2 k hk]
theorem VR_fwI {c σ : ST} (h : Rel c σ) {a : Nat} {v : Nat → Int} (hb : bdV v) {ζ : ST} (hv : VR c σ a v ζ) : ∀ n : Nat, (a : Int) + n < c 2 0 → VR c σ (a + n) (cf c v a n) (gvI ζ a n)
  | 0, _ => hv
  | n + 1, hn => by
    have ih := VR_fwI h hb hv n (by omega)
    have := (VR_fw h (s := a + n) (by omega) (cf_bd h.ci hb a n) ih).2
    rw [show ((a + n : Nat) : Int) + 1 = (a : Int) + (n : Int) + 1 by omega] at this
    exact this
theorem VR_fwO {c σ : ST} (h : Rel c σ) {a : Nat} {v : Nat → Int} (hb : bdV v) {ζ : ST} (hv : VR c σ a v ζ) (n : Nat) (hn : (a : Int) + n + 1 < c 2 0) : okV (gvI ζ a n) ((a : Int) + (n : Int) + 1) := by
  have := (VR_fw h (s := a + n) (by omega) (cf_bd h.ci hb a n) (VR_fwI h hb hv n (by omega))).1
  rw [show ((a + n : Nat) : Int) + 1 = (a : Int) + (n : Int) + 1 by omega] at this
  exact this
theorem VR_bwI {c σ : ST} (h : Rel c σ) {a : Nat} (ha : (a : Int) < c 2 0) {v : Nat → Int} {ζ : ST} (hv : VR c σ a v ζ) : ∀ n : Nat, n ≤ a → VR c σ (a - n) (cb c v a n) (gbI ζ a n)
  | 0, _ => hv
  | n + 1, hn => by
    have ih := VR_bwI h ha hv n (by omega)
    rw [show a - n = a - (n + 1) + 1 by omega] at ih
    have := (VR_bw h (s := a - (n + 1)) (by omega) ih).2
    rw [show a - (n + 1) + 1 = a - n by omega, show ((a - (n + 1) : Nat) : Int) + 1 = (a : Int) - (n : Int) by omega] at this
    exact this
theorem VR_bwO {c σ : ST} (h : Rel c σ) {a : Nat} (ha : (a : Int) < c 2 0) {v : Nat → Int} {ζ : ST} (hv : VR c σ a v ζ) (n : Nat) (hn : n < a) : okW (gbI ζ a n) ((a : Int) - (n : Int)) := by
  have ih := VR_bwI h ha hv n (by omega)
  rw [show a - n = a - (n + 1) + 1 by omega] at ih
  have := (VR_bw h (s := a - (n + 1)) (by omega) ih).1
  rw [show ((a - (n + 1) : Nat) : Int) + 1 = (a : Int) - (n : Int) by omega] at this
  exact this
/-- values that go from shape a to shape b -/
theorem VR_go {c σ : ST} (h : Rel c σ) {a b : Nat} (ha : (a : Int) < c 2 0) (hb : (b : Int) < c 2 0) {v : Nat → Int} (hd : bdV v) {ζ : ST} (hv : VR c σ a v ζ) :
    (∀ n : Nat, (n : Int) < (b : Int) - a → okV (gvI ζ a n) ((a : Int) + (n : Int) + 1)) ∧ (∀ n : Nat, (n : Int) < (a : Int) - b → okW (gbI (gvI ζ a ((b : Int) - a).toNat) a n) ((a : Int) - (n : Int))) ∧ VR c σ b (cb c (cf c v a (b - a)) a (a - b)) (goM ζ a b) := by
  refine ⟨fun n hn => VR_fwO h hd hv n (by omega), fun n hn => ?_, ?_⟩
  · rw [show ((b : Int) - a).toNat = 0 by omega]
    exact VR_bwO h ha hv n (by omega)
  · unfold goM
    rcases Nat.le_total a b with hab | hab
    · rw [show ((b : Int) - a).toNat = b - a by omega, show ((a : Int) - b).toNat = 0 by omega, show a - b = 0 by omega]
      have := VR_fwI h hd hv (b - a) (by omega)
      rw [show a + (b - a) = b by omega] at this
      exact this
    · rw [show ((b : Int) - a).toNat = 0 by omega, show ((a : Int) - b).toNat = a - b by omega, show b - a = 0 by omega]
      have := VR_bwI h ha hv (a - b) (by omega)
      rw [show a - (a - b) = b by omega] at this
      exact this
theorem VR_own {c σ : ST} (h : Rel c σ) {r : Nat} (hr : (r : Int) < c 10 0) {ζ : ST} (e : ζ 111 = σ 111) : VR c σ (c 11 r).toNat (fun j => c 13 (12 * r + j)) (rdB ζ r) := by
  have h1 := h.ro r hr
  have hs := h.ci.rs r
  have h2 := h.wd (c 11 r).toNat (by omega)
  rw [show (((c 11 r).toNat : Nat) : Int) = c 11 r by omega] at h2
  have eo : oM ζ (r : Int) 0 = c 11 r := by rw [oM_cg e]; exact h1.1
  have eg : gM ζ (c 11 r) 0 = c 7 (c 11 r).toNat := by rw [gM_cg e]; exact h2.1
  unfold rdB
  rw [eo, eg]
  refine ⟨(rdK_1 ζ r _).trans e, by rw [rdK_7, eo, eg], fun k hk => ?_⟩
  unfold rdK cpR
  rw [if_pos ⟨rfl, by omega, by omega⟩]
  show oM ζ (r : Int) (2 + ((k - 0 : Nat) : Int)) = _
  rw [oM_cg e, Nat.sub_zero]
  exact h.va r k hr hk
theorem VR_rd {c σ : ST} (h : Rel c σ) {r s : Nat} (hr : (r : Int) < c 10 0) (hs : (s : Int) < c 2 0) {ζ : ST} (e : ζ 111 = σ 111) : rdO ζ r s ∧ VR c σ s (vR c r s) (reM ζ r s) := by
  have h1 := h.ro r hr
  have ho := h.ci.rs r
  have eo : oM ζ (r : Int) 0 = ((c 11 r).toNat : Nat) := by rw [oM_cg e, h1.1]; omega
  have hv := VR_own h hr e
  have q := VR_go h (a := (c 11 r).toNat) (b := s) (by omega) hs (fun j _ => h.ci.va _) hv
  refine ⟨⟨?_, ?_⟩, ?_⟩
  · rw [eo]; exact q.1
  · rw [eo]; exact q.2.1
  · unfold reM vR
    rw [eo]
    exact q.2.2
