/-! the relation is kept: shapes -/
theorem up2_no (σ : ST) {p k a b : Nat} {v : Int} (h : ¬ (a = p ∧ b = k)) : up2 σ p k v a b = σ a b := by unfold up2; rw [if_neg h]
theorem cpR_no (σ : ST) {p lo n a b : Nat} {f : Nat → Int} (h : ¬ (a = p ∧ lo ≤ b ∧ b < lo + n)) : cpR σ p lo n f a b = σ a b := by unfold cpR; rw [if_neg h]
theorem cpR_yes (σ : ST) {p lo n b : Nat} {f : Nat → Int} (h : lo ≤ b ∧ b < lo + n) : cpR σ p lo n f p b = f (b - lo) := by unfold cpR; rw [if_pos ⟨rfl, h⟩]
theorem MJ_of {c σ : ST} (hI : CI c)
    (n : σ 111 0 = c 2 0 ∧ σ 111 1 = c 2 1 ∧ σ 111 2 = c 10 0 ∧ σ 111 3 = c 10 1 ∧ σ 111 4 = c 10 2 ∧ σ 111 5 = c 10 3)
    (he : ∀ r : Nat, r < 4 → σ 111 (6 + r) = c 14 r) (hb : ∀ r : Nat, r < 4 → c 14 r < c 2 0)
    (wd : ∀ s : Nat, (s : Int) < c 2 0 → gM σ s 0 = c 7 s ∧ gM σ s 17 = c 3 s)
    (cl : ∀ s k : Nat, (s : Int) < c 2 0 → (k : Int) < c 7 s → gM σ s (1 + (k : Int)) = c 8 (8 * s + k) ∧ gM σ s (9 + (k : Int)) = c 9 (8 * s + k) ∧ c 8 (8 * s + k) ≤ (s : Int))
    (fs : ∀ s : Nat, (s : Int) < c 2 0 → 0 ≤ gM σ s 18 ∧ gM σ s 18 ≤ 99 ∧ 0 ≤ gM σ s 19 ∧ gM σ s 19 ≤ 99)
    (ro : ∀ r : Nat, (r : Int) < c 10 0 → oM σ r 0 = c 11 r ∧ oM σ r 1 = c 12 r ∧ c 11 r < c 2 0)
    (va : ∀ r k : Nat, (r : Int) < c 10 0 → (k : Int) < c 7 (c 11 r).toNat → oM σ r (2 + (k : Int)) = c 13 (12 * r + (c 8 (8 * (c 11 r).toNat + k)).toNat)) : MJ σ := by
  have hz := hI.sz
  have hr := hI.ro
  have hc := hI.cu
  have hk := hI.mk
  have wI : ∀ s : Int, 0 ≤ s → s < c 2 0 → gM σ s 0 = c 7 s.toNat ∧ gM σ s 17 = c 3 s.toNat := fun s s0 s1 => by
    have e := wd s.toNat (by omega)
    rw [show ((s.toNat : Nat) : Int) = s by omega] at e
    exact e
  have oI : ∀ r : Int, 0 ≤ r → r < c 10 0 → oM σ r 0 = c 11 r.toNat ∧ c 11 r.toNat < c 2 0 := fun r r0 r1 => by
    have e := ro r.toNat (by omega)
    rw [show ((r.toNat : Nat) : Int) = r by omega] at e
    exact ⟨e.1, e.2.2⟩
  refine ⟨by omega, by omega, by omega, by omega, fun r r0 r1 => ?_, fun s s0 s1 => ?_, fun s j s0 s1 j0 j1 => ?_, fun s s0 s1 => ?_, fun r r0 r1 => ?_, fun r j r0 r1 j0 j1 => ?_⟩
  · have e := he r.toNat (by omega)
    have b := hb r.toNat (by omega)
    have d := hI.he r.toNat
    rw [show (6 + r).toNat = 6 + r.toNat by omega]
    omega
  · have e := (wI s s0 (by omega)).1
    have d := hI.wd s.toNat
    omega
  · have e := (wI s s0 (by omega)).1
    have g := cl s.toNat j.toNat (by omega) (by omega)
    have d := hI.co (8 * s.toNat + j.toNat)
    have d2 := hI.le (8 * s.toNat + j.toNat)
    rw [show ((s.toNat : Nat) : Int) = s by omega, show ((j.toNat : Nat) : Int) = j by omega] at g
    omega
  · have e := (wI s s0 (by omega)).2
    have d := hI.ch s.toNat
    have g := fs s.toNat (by omega)
    rw [show ((s.toNat : Nat) : Int) = s by omega] at g
    omega
  · have e := oI r r0 (by omega)
    have d := hI.rs r.toNat
    omega
  · have e := oI r r0 (by omega)
    have d := hI.rs r.toNat
    rw [e.1] at j1
    have e2 := (wI (c 11 r.toNat) d.1 e.2).1
    have g := va r.toNat j.toNat (by omega) (by omega)
    have d2 := hI.va (12 * r.toNat + (c 8 (8 * (c 11 r.toNat).toNat + j.toNat)).toNat)
    rw [show ((r.toNat : Nat) : Int) = r by omega, show ((j.toNat : Nat) : Int) = j by omega] at g
    omega
theorem Rel.hb {c σ : ST} (h : Rel c σ) (r : Nat) (a : r < 4) : c 14 r < c 2 0 := by
  have e := h.he r a
  have m := h.mj.he (r : Int) (by omega) (by omega)
  have n := h.nm
  rw [show (6 + (r : Int)).toNat = 6 + r by omega] at m
  omega
theorem Rel.fs {c σ : ST} (h : Rel c σ) (s : Nat) (a : (s : Int) < c 2 0) : 0 ≤ gM σ s 18 ∧ gM σ s 18 ≤ 99 ∧ 0 ≤ gM σ s 19 ∧ gM σ s 19 ≤ 99 := by
  have n := h.nm
  have m := h.mj.ch (s : Int) (by omega) (by omega)
  omega
theorem gM_i {σ σ' : ST} {s w t u : Int} (h : σ' 111 (10 + 20 * s + w).toNat = σ 111 (10 + 20 * t + u).toNat) : gM σ' s w = gM σ t u := h
theorem stR_o {c σ c' σ' : ST} {s : Nat} (hw : c 7 s ≤ 8) (hw1 : c 7 (s + 1) ≤ 8) (h : stR c σ s) (e3 : c' 3 (s + 1) = c 3 (s + 1)) (e4 : c' 4 (s + 1) = c 4 (s + 1)) (e5 : c' 5 (s + 1) = c 5 (s + 1)) (e6 : c' 6 (s + 1) = c 6 (s + 1)) (e7 : c' 7 s = c 7 s) (e71 : c' 7 (s + 1) = c 7 (s + 1)) (e8 : ∀ k, k < 8 → c' 8 (8 * s + k) = c 8 (8 * s + k)) (e81 : ∀ k, k < 8 → c' 8 (8 * (s + 1) + k) = c 8 (8 * (s + 1) + k)) (g18 : gM σ' ((s : Int) + 1) 18 = gM σ ((s : Int) + 1) 18) (g19 : gM σ' ((s : Int) + 1) 19 = gM σ ((s : Int) + 1) 19) (b18 : 0 ≤ gM σ ((s : Int) + 1) 18) (b19 : 0 ≤ gM σ ((s : Int) + 1) 19) : stR c' σ' s := by
  obtain ⟨q0, q1, q2, q3, q4, q5, q6⟩ := h
  unfold stR
  rw [e3, e4, e5, e6, e7, e71, g18, g19]
  refine ⟨q0, fun hh => ?_, q2, fun hh => ?_, fun hh => ?_, fun hh => ?_, fun hh => ?_⟩
  · obtain ⟨a1, a2, a3⟩ := q1 hh
    refine ⟨a1, fun k hk => ?_, ?_⟩
    · rw [e81 k (by omega), e8 k (by omega)]; exact a2 k hk
    · rcases Int.lt_or_le (c 7 s) 8 with g | g
      · rw [e81 _ (by omega)]; exact a3
      · omega
  · have a := q3 hh
    rw [e8 _ (by omega)]
    exact a
  · have a := q4 hh
    rw [e8 _ (by omega)]
    exact a
  · obtain ⟨a1, a2, a3, a4, a5⟩ := q5 hh
    refine ⟨a1, a2, ?_, a4, fun k hk => ?_⟩
    · rw [e8 _ (by omega)]; exact a3
    · rw [e81 k (by omega), e8 k (by omega), e8 (k + 1) (by omega)]; exact a5 k hk
  · obtain ⟨a1, a2⟩ := q6 hh
    exact ⟨a1, fun k hk => by rw [e81 k (by omega), e8 k (by omega)]; exact a2 k hk⟩
theorem Rel_of {c σ : ST} (hI : CI c) (hL : LI c)
    (n : σ 111 0 = c 2 0 ∧ σ 111 1 = c 2 1 ∧ σ 111 2 = c 10 0 ∧ σ 111 3 = c 10 1 ∧ σ 111 4 = c 10 2 ∧ σ 111 5 = c 10 3)
    (he : ∀ r : Nat, r < 4 → σ 111 (6 + r) = c 14 r) (hb : ∀ r : Nat, r < 4 → c 14 r < c 2 0)
    (wd : ∀ s : Nat, (s : Int) < c 2 0 → gM σ s 0 = c 7 s ∧ gM σ s 17 = c 3 s)
    (cl : ∀ s k : Nat, (s : Int) < c 2 0 → (k : Int) < c 7 s → gM σ s (1 + (k : Int)) = c 8 (8 * s + k) ∧ gM σ s (9 + (k : Int)) = c 9 (8 * s + k) ∧ c 8 (8 * s + k) ≤ (s : Int))
    (ne : ∀ s i j : Nat, (s : Int) < c 2 0 → i < j → (j : Int) < c 7 s → c 8 (8 * s + i) ≠ c 8 (8 * s + j))
    (w0 : c 7 0 = 0) (st : ∀ s : Nat, (s : Int) + 1 < c 2 0 → stR c σ s)
    (fs : ∀ s : Nat, (s : Int) < c 2 0 → 0 ≤ gM σ s 18 ∧ gM σ s 18 ≤ 99 ∧ 0 ≤ gM σ s 19 ∧ gM σ s 19 ≤ 99)
    (ro : ∀ r : Nat, (r : Int) < c 10 0 → oM σ r 0 = c 11 r ∧ oM σ r 1 = c 12 r ∧ c 11 r < c 2 0)
    (va : ∀ r k : Nat, (r : Int) < c 10 0 → (k : Int) < c 7 (c 11 r).toNat → oM σ r (2 + (k : Int)) = c 13 (12 * r + (c 8 (8 * (c 11 r).toNat + k)).toNat)) : Rel c σ :=
  ⟨hI, hL, MJ_of hI n he hb wd cl fs ro va, n, he, wd, cl, ne, w0, st, ro, va⟩
/-- a shape comes -/
theorem Rel_grow {c σ c' σ' : ST} (h : Rel c σ) (hI : CI c') (hL : LI c') {S : Nat} (hS : c 2 0 = S) (h12 : S < 12)
    (e20 : c' 2 0 = (S : Int) + 1) (e21 : c' 2 1 = c 2 1)
    (eo : ∀ p i : Nat, p ≠ 2 → (p < 8 → i < S) → (p < 10 → i < 8 * S) → c' p i = c p i)
    (m0 : σ' 111 0 = (S : Int) + 1) (mo : ∀ i : Nat, i ≠ 0 → (i < 10 + 20 * S ∨ 250 ≤ i) → σ' 111 i = σ 111 i)
    (n0 : gM σ' S 0 = c' 7 S ∧ gM σ' S 17 = c' 3 S)
    (nc : ∀ k : Nat, (k : Int) < c' 7 S → gM σ' S (1 + (k : Int)) = c' 8 (8 * S + k) ∧ gM σ' S (9 + (k : Int)) = c' 9 (8 * S + k) ∧ c' 8 (8 * S + k) ≤ (S : Int))
    (nn : ∀ i j : Nat, i < j → (j : Int) < c' 7 S → c' 8 (8 * S + i) ≠ c' 8 (8 * S + j))
    (nf : 0 ≤ gM σ' S 18 ∧ gM σ' S 18 ≤ 99 ∧ 0 ≤ gM σ' S 19 ∧ gM σ' S 19 ≤ 99)
    (ns : stR c' σ' (S - 1)) : Rel c' σ' := by
  have hz := h.ci.sz
  have hn := h.nm
  have hr := h.ci.ro
  have gS : ∀ s w : Int, 0 ≤ s → s < (S : Int) → 0 ≤ w → w < 20 → gM σ' s w = gM σ s w := fun s w s0 s1 w0 w1 => mo _ (by omega) (by omega)
  have oS : ∀ r w : Int, 0 ≤ r → 0 ≤ w → oM σ' r w = oM σ r w := fun r w r0 w0 => mo _ (by omega) (by omega)
  have e7 : ∀ s : Nat, s < S → c' 7 s = c 7 s := fun s hs => eo 7 s (by omega) (by omega) (by omega)
  have e8 : ∀ s k : Nat, s < S → k < 8 → c' 8 (8 * s + k) = c 8 (8 * s + k) := fun s k hs hk => eo 8 _ (by omega) (by omega) (by omega)
  have e9 : ∀ s k : Nat, s < S → k < 8 → c' 9 (8 * s + k) = c 9 (8 * s + k) := fun s k hs hk => eo 9 _ (by omega) (by omega) (by omega)
  have eR : ∀ p i : Nat, 10 ≤ p → c' p i = c p i := fun p i hp => eo p i (by omega) (by omega) (by omega)
  have w8 : ∀ s : Nat, c 7 s ≤ 8 := fun s => (h.ci.wd s).2
  have hl : ∀ {s : Nat}, (s : Int) < c' 2 0 → s < S ∨ s = S := fun hs => by omega
  refine Rel_of hI hL ⟨by omega, ?_, ?_, ?_, ?_, ?_⟩ (fun r hr4 => ?_) (fun r hr4 => ?_) (fun s hs => ?_) (fun s k hs hk => ?_) (fun s i j hs hij hj => ?_) ?_ (fun s hs => ?_) (fun s hs => ?_) (fun r hr1 => ?_) (fun r k hr1 hk => ?_)
  · rw [e21, mo 1 (by omega) (by omega)]; omega
  · rw [eR 10 0 (by omega), mo 2 (by omega) (by omega)]; omega
  · rw [eR 10 1 (by omega), mo 3 (by omega) (by omega)]; omega
  · rw [eR 10 2 (by omega), mo 4 (by omega) (by omega)]; omega
  · rw [eR 10 3 (by omega), mo 5 (by omega) (by omega)]; omega
  · rw [eR 14 r (by omega), mo _ (by omega) (by omega)]; exact h.he r hr4
  · rw [eR 14 r (by omega)]; have := h.hb r hr4; omega
  · rcases hl hs with g | g
    · rw [gS s 0 (by omega) (by omega) (by omega) (by omega), gS s 17 (by omega) (by omega) (by omega) (by omega), e7 s g, eo 3 s (by omega) (by omega) (by omega)]
      exact h.wd s (by omega)
    · rw [g]; exact n0
  · rcases hl hs with g | g
    · rw [e7 s g] at hk
      have := w8 s
      rw [gS s _ (by omega) (by omega) (by omega) (by omega), gS s _ (by omega) (by omega) (by omega) (by omega), e8 s k g (by omega), e9 s k g (by omega)]
      exact h.cl s k (by omega) hk
    · subst g; exact nc k hk
  · rcases hl hs with g | g
    · rw [e7 s g] at hj
      have := w8 s
      rw [e8 s i g (by omega), e8 s j g (by omega)]
      exact h.ne s i j (by omega) hij hj
    · subst g; exact nn i j hij hj
  · rw [e7 0 (by omega)]; exact h.w0
  · rcases (show s + 1 < S ∨ s = S - 1 by omega) with g | g
    · have f := h.fs (s + 1) (by omega)
      rw [show ((s + 1 : Nat) : Int) = (s : Int) + 1 by omega] at f
      exact stR_o (w8 s) (w8 (s + 1)) (h.st s (by omega)) (eo 3 _ (by omega) (by omega) (by omega)) (eo 4 _ (by omega) (by omega) (by omega)) (eo 5 _ (by omega) (by omega) (by omega)) (eo 6 _ (by omega) (by omega) (by omega)) (e7 s (by omega)) (e7 (s + 1) g) (fun k hk => e8 s k (by omega) hk) (fun k hk => e8 (s + 1) k g hk) (gS _ _ (by omega) (by omega) (by omega) (by omega)) (gS _ _ (by omega) (by omega) (by omega) (by omega)) (by omega) (by omega)
    · rw [g]; exact ns
  · rcases hl hs with g | g
    · rw [gS s _ (by omega) (by omega) (by omega) (by omega), gS s _ (by omega) (by omega) (by omega) (by omega)]
      exact h.fs s (by omega)
    · rw [g]; exact nf
  · rw [eR 10 0 (by omega)] at hr1
    have b := h.ro r hr1
    rw [oS r 0 (by omega) (by omega), oS r 1 (by omega) (by omega), eR 11 r (by omega), eR 12 r (by omega)]
    exact ⟨b.1, b.2.1, by omega⟩
  · rw [eR 10 0 (by omega)] at hr1
    have b := h.ro r hr1
    have b0 := h.ci.rs r
    rw [eR 11 r (by omega), e7 _ (by omega)] at hk
    have := w8 (c 11 r).toNat
    rw [oS r _ (by omega) (by omega), eR 11 r (by omega), e8 _ k (by omega) (by omega), eR 13 _ (by omega)]
    exact h.va r k hr1 hk
/-- shapes stand; rows, readers, the mark may be others -/
theorem Rel_same {c σ c' σ' : ST} (h : Rel c σ) (hI : CI c') (e20 : c' 2 0 = c 2 0) (eo : ∀ p, 3 ≤ p → p ≤ 9 → c' p = c p) (mo : ∀ i : Nat, 10 ≤ i → i < 250 → σ' 111 i = σ 111 i)
    (n : σ' 111 0 = c' 2 0 ∧ σ' 111 1 = c' 2 1 ∧ σ' 111 2 = c' 10 0 ∧ σ' 111 3 = c' 10 1 ∧ σ' 111 4 = c' 10 2 ∧ σ' 111 5 = c' 10 3)
    (he : ∀ r : Nat, r < 4 → σ' 111 (6 + r) = c' 14 r) (hb : ∀ r : Nat, r < 4 → c' 14 r < c 2 0)
    (ro : ∀ r : Nat, (r : Int) < c' 10 0 → oM σ' r 0 = c' 11 r ∧ oM σ' r 1 = c' 12 r ∧ c' 11 r < c 2 0)
    (va : ∀ r k : Nat, (r : Int) < c' 10 0 → (k : Int) < c 7 (c' 11 r).toNat → oM σ' r (2 + (k : Int)) = c' 13 (12 * r + (c 8 (8 * (c' 11 r).toNat + k)).toNat)) : Rel c' σ' := by
  have hz := h.ci.sz
  have gS : ∀ s w : Int, 0 ≤ s → s < 12 → 0 ≤ w → w < 20 → gM σ' s w = gM σ s w := fun s w s0 s1 w0 w1 => mo _ (by omega) (by omega)
  have e3 := eo 3 (by omega) (by omega)
  have e4 := eo 4 (by omega) (by omega)
  have e5 := eo 5 (by omega) (by omega)
  have e6 := eo 6 (by omega) (by omega)
  have e7 := eo 7 (by omega) (by omega)
  have e8 := eo 8 (by omega) (by omega)
  have e9 := eo 9 (by omega) (by omega)
  refine Rel_of hI (LI_of h.li e20 e7 e9) n he (fun r hr => by rw [e20]; exact hb r hr) (fun s hs => ?_) (fun s k hs hk => ?_) (fun s i j hs hij hj => ?_) ?_ (fun s hs => ?_) (fun s hs => ?_) (fun r hr => by rw [e20]; exact ro r hr) (fun r k hr hk => ?_)
  · rw [e20] at hs
    rw [gS s 0 (by omega) (by omega) (by omega) (by omega), gS s 17 (by omega) (by omega) (by omega) (by omega), e7, e3]
    exact h.wd s hs
  · rw [e20] at hs
    rw [e7] at hk
    have := (h.ci.wd s).2
    rw [gS s _ (by omega) (by omega) (by omega) (by omega), gS s _ (by omega) (by omega) (by omega) (by omega), e8, e9]
    exact h.cl s k hs hk
  · rw [e20] at hs
    rw [e7] at hj
    rw [e8]
    exact h.ne s i j hs hij hj
  · rw [e7]; exact h.w0
  · rw [e20] at hs
    have f := h.fs (s + 1) (by omega)
    rw [show ((s + 1 : Nat) : Int) = (s : Int) + 1 by omega] at f
    exact stR_o (h.ci.wd s).2 (h.ci.wd (s + 1)).2 (h.st s hs) (by rw [e3]) (by rw [e4]) (by rw [e5]) (by rw [e6]) (by rw [e7]) (by rw [e7]) (fun k hk => by rw [e8]) (fun k hk => by rw [e8]) (gS _ _ (by omega) (by omega) (by omega) (by omega)) (gS _ _ (by omega) (by omega) (by omega) (by omega)) (by omega) (by omega)
  · rw [e20] at hs
    rw [gS s _ (by omega) (by omega) (by omega) (by omega), gS s _ (by omega) (by omega) (by omega) (by omega)]
    exact h.fs s hs
  · rw [e7] at hk
    rw [e8]
    exact va r k hr hk
