/-! saved states -/
def lnK (q : Nat) : Nat := if q = 2 then 2 else if q < 8 then 12 else if q < 10 then 96 else if q = 10 then 4 else if q < 13 then 12 else if q = 13 then 144 else 4
theorem ln_2 : lnK 2 = 2 := rfl
theorem CI_mix {c o c' : ST} (h : CI c) (g : CI o) (e1 : ∀ q i, 2 ≤ q → q ≤ 14 → i < lnK q → c' q i = c q i) (e2 : ∀ q i, 2 ≤ q → q ≤ 14 → ¬ i < lnK q → c' q i = o q i) : CI c' := by
  have e : ∀ q i, 2 ≤ q → q ≤ 14 → c' q i = c q i ∨ c' q i = o q i := fun q i a b => by
    by_cases z : i < lnK q
    · exact Or.inl (e1 q i a b z)
    · exact Or.inr (e2 q i a b z)
  have x := e1 2 0 (by omega) (by omega) (by decide)
  have x1 := e1 2 1 (by omega) (by omega) (by decide)
  have x2 := e1 10 0 (by omega) (by omega) (by decide)
  have x3 := e1 10 1 (by omega) (by omega) (by decide)
  have y1 := h.sz
  have y2 := h.mk
  have y3 := h.ro
  have y4 := h.cu
  refine ⟨by omega, by omega, fun k => ?_, fun k => ?_, fun k => ?_, fun k => ?_, fun k => ?_, fun k => ?_, fun k => ?_, by omega, by omega, fun k => ?_, fun k => ?_, fun k => ?_⟩
  · have a := h.ch k; have b := g.ch k; rcases e 3 k (by omega) (by omega) with z | z <;> omega
  · have a := h.nu k; have b := g.nu k; rcases e 4 k (by omega) (by omega) with z | z <;> omega
  · have a := h.so k; have b := g.so k; rcases e 5 k (by omega) (by omega) with z | z <;> omega
  · have a := h.ad k
    have b := g.ad k
    by_cases z : k < 12
    · have z1 := e1 3 k (by omega) (by omega) z
      have z2 := e1 6 k (by omega) (by omega) z
      omega
    · have z1 := e2 3 k (by omega) (by omega) z
      have z2 := e2 6 k (by omega) (by omega) z
      omega
  · have a := h.wd k; have b := g.wd k; rcases e 7 k (by omega) (by omega) with z | z <;> omega
  · have a := h.co k; have b := g.co k; rcases e 8 k (by omega) (by omega) with z | z <;> omega
  · have a := h.le k; have b := g.le k; rcases e 9 k (by omega) (by omega) with z | z <;> omega
  · have a := h.rs k; have b := g.rs k; rcases e 11 k (by omega) (by omega) with z | z <;> omega
  · have a := h.va k; have b := g.va k; rcases e 13 k (by omega) (by omega) with z | z <;> omega
  · have a := h.he k; have b := g.he k; rcases e 14 k (by omega) (by omega) with z | z <;> omega
theorem Rel_live {c c' σ σ' : ST} (h : Rel c σ) (hI : CI c') (hc : ∀ q i, 2 ≤ q → q ≤ 14 → i < lnK q → c' q i = c q i) (hm : ∀ j, j < 370 → σ' 111 j = σ 111 j) : Rel c' σ' := by
  have hz := h.ci.sz
  have hr := h.ci.ro
  have hn := h.nm
  have c3 : ∀ i, i < 12 → c' 3 i = c 3 i := fun i hi => hc 3 i (by omega) (by omega) hi
  have c4 : ∀ i, i < 12 → c' 4 i = c 4 i := fun i hi => hc 4 i (by omega) (by omega) hi
  have c5 : ∀ i, i < 12 → c' 5 i = c 5 i := fun i hi => hc 5 i (by omega) (by omega) hi
  have c6 : ∀ i, i < 12 → c' 6 i = c 6 i := fun i hi => hc 6 i (by omega) (by omega) hi
  have c7 : ∀ i, i < 12 → c' 7 i = c 7 i := fun i hi => hc 7 i (by omega) (by omega) hi
  have c8 : ∀ i, i < 96 → c' 8 i = c 8 i := fun i hi => hc 8 i (by omega) (by omega) hi
  have c9 : ∀ i, i < 96 → c' 9 i = c 9 i := fun i hi => hc 9 i (by omega) (by omega) hi
  have c10 : ∀ i, i < 4 → c' 10 i = c 10 i := fun i hi => hc 10 i (by omega) (by omega) hi
  have c11 : ∀ i, i < 12 → c' 11 i = c 11 i := fun i hi => hc 11 i (by omega) (by omega) hi
  have c12 : ∀ i, i < 12 → c' 12 i = c 12 i := fun i hi => hc 12 i (by omega) (by omega) hi
  have c13 : ∀ i, i < 144 → c' 13 i = c 13 i := fun i hi => hc 13 i (by omega) (by omega) hi
  have c14 : ∀ i, i < 4 → c' 14 i = c 14 i := fun i hi => hc 14 i (by omega) (by omega) hi
  have c20 : c' 2 0 = c 2 0 := hc 2 0 (by omega) (by omega) (by decide)
  have c21 : c' 2 1 = c 2 1 := hc 2 1 (by omega) (by omega) (by decide)
  have gS : ∀ s w : Int, 0 ≤ s → s < 12 → 0 ≤ w → w < 20 → gM σ' s w = gM σ s w := fun s w s0 s1 w0 w1 => hm _ (by omega)
  have oS : ∀ r w : Int, 0 ≤ r → r < 12 → 0 ≤ w → w < 10 → oM σ' r w = oM σ r w := fun s w s0 s1 w0 w1 => hm _ (by omega)
  have w8 : ∀ s : Nat, c 7 s ≤ 8 := fun s => (h.ci.wd s).2
  have e100 := c10 0 (by omega)
  refine Rel_of hI ?_ ⟨by rw [hm 0 (by omega), c20]; exact hn.1, by rw [hm 1 (by omega), c21]; exact hn.2.1, by rw [hm 2 (by omega), e100]; exact hn.2.2.1, by rw [hm 3 (by omega), c10 1 (by omega)]; exact hn.2.2.2.1, by rw [hm 4 (by omega), c10 2 (by omega)]; exact hn.2.2.2.2.1, by rw [hm 5 (by omega), c10 3 (by omega)]; exact hn.2.2.2.2.2⟩ (fun r hr4 => by rw [hm _ (by omega), c14 r hr4]; exact h.he r hr4) (fun r hr4 => by rw [c14 r hr4, c20]; exact h.hb r hr4) (fun s hs => ?_) (fun s k hs hk => ?_) (fun s i j hs hij hj => ?_) ?_ (fun s hs => ?_) (fun s hs => ?_) (fun r hr1 => ?_) (fun r k hr1 hk => ?_)
  · have hl := h.li
    unfold LI at hl ⊢
    rw [c20, c7 _ (by omega)]
    intro i j hij hj
    have := w8 (c 2 0 - 1).toNat
    rw [c9 _ (by omega), c9 _ (by omega)]
    exact hl i j hij hj
  · rw [c20] at hs
    rw [gS s 0 (by omega) (by omega) (by omega) (by omega), gS s 17 (by omega) (by omega) (by omega) (by omega), c7 s (by omega), c3 s (by omega)]
    exact h.wd s hs
  · rw [c20] at hs
    rw [c7 s (by omega)] at hk
    have := w8 s
    rw [gS s _ (by omega) (by omega) (by omega) (by omega), gS s _ (by omega) (by omega) (by omega) (by omega), c8 _ (by omega), c9 _ (by omega)]
    exact h.cl s k hs hk
  · rw [c20] at hs
    rw [c7 s (by omega)] at hj
    have := w8 s
    rw [c8 _ (by omega), c8 _ (by omega)]
    exact h.ne s i j hs hij hj
  · rw [c7 0 (by omega)]; exact h.w0
  · rw [c20] at hs
    have f := h.fs (s + 1) (by omega)
    rw [show ((s + 1 : Nat) : Int) = (s : Int) + 1 by omega] at f
    exact stR_o (w8 s) (w8 (s + 1)) (h.st s hs) (c3 _ (by omega)) (c4 _ (by omega)) (c5 _ (by omega)) (c6 _ (by omega)) (c7 _ (by omega)) (c7 _ (by omega)) (fun k hk => c8 _ (by omega)) (fun k hk => c8 _ (by omega)) (gS _ _ (by omega) (by omega) (by omega) (by omega)) (gS _ _ (by omega) (by omega) (by omega) (by omega)) (by omega) (by omega)
  · rw [c20] at hs
    rw [gS s _ (by omega) (by omega) (by omega) (by omega), gS s _ (by omega) (by omega) (by omega) (by omega)]
    exact h.fs s hs
  · rw [e100] at hr1
    rw [oS r _ (by omega) (by omega) (by omega) (by omega), oS r _ (by omega) (by omega) (by omega) (by omega), c11 r (by omega), c12 r (by omega), c20]
    exact h.ro r hr1
  · rw [e100] at hr1
    have b0 := h.ci.rs r
    rw [c11 r (by omega), c7 _ (by omega)] at hk
    have := w8 (c 11 r).toNat
    have b2 := cl12 h.ci (8 * (c 11 r).toNat + k)
    rw [oS r _ (by omega) (by omega) (by omega) (by omega), c11 r (by omega), c8 _ (by omega), c13 _ (by omega)]
    exact h.va r k hr1 hk
/-- a State block, as if it stood at place 1; a saved stretch of the model -/
def bk (σ : ST) (p : Nat) : ST := fun q => σ (q + p - 1)
def sv (σ : ST) (k : Nat) : ST := fun _ j => σ 112 (370 * k + j)
theorem bk_1 (σ : ST) {q : Nat} (h : 1 ≤ q) : bk σ 1 q = σ q := by unfold bk; congr 1
theorem cpI_e (σ : ST) {q p n a b : Nat} : cpI σ q p n a b = if a = p ∧ b < n then σ q b else σ a b := rfl
/-- a block is copied -/
theorem tkSt_at {σ : ST} {q p : Nat} (hp : blkP p) (hq : blkP q) (hn : q ≠ p) {r i : Nat} (r2 : 2 ≤ r) (r14 : r ≤ 14) : bk (tkSt σ q p) p r i = if i < lnK r then bk σ q r i else bk σ p r i := by
  have far : q + 15 ≤ p ∨ p + 15 ≤ q := by
    unfold blkP at hp hq
    omega
  have p1 : 1 ≤ p := by unfold blkP at hp; omega
  have q1 : 1 ≤ q := by unfold blkP at hq; omega
  have no : ∀ (τ : ST) (x y n a b : Nat), a ≠ y → cpI τ x y n a b = τ a b := fun τ x y n a b h => by rw [cpI_e, if_neg (fun z => h z.1)]
  have ye : ∀ (τ : ST) (x y n b : Nat), cpI τ x y n y b = if b < n then τ x b else τ y b := fun τ x y n b => by
    rw [cpI_e]
    by_cases z : b < n
    · rw [if_pos ⟨rfl, z⟩, if_pos z]
    · rw [if_neg (fun w => z w.2), if_neg z]
  unfold bk tkSt tkRo tkSh
  rcases (show r = 2 ∨ r = 3 ∨ r = 4 ∨ r = 5 ∨ r = 6 ∨ r = 7 ∨ r = 8 ∨ r = 9 ∨ r = 10 ∨ r = 11 ∨ r = 12 ∨ r = 13 ∨ r = 14 by omega) with e | e | e | e | e | e | e | e | e | e | e | e | e
  · subst e
    rw [show 2 + p - 1 = p + 1 by omega, show 2 + q - 1 = q + 1 by omega]
    repeat rw [no _ _ _ _ _ _ (by omega)]
    rw [ye]
    repeat rw [no _ _ _ _ _ _ (by omega)]
    rfl
  · subst e
    rw [show 3 + p - 1 = p + 2 by omega, show 3 + q - 1 = q + 2 by omega]
    repeat rw [no _ _ _ _ _ _ (by omega)]
    rw [ye]
    repeat rw [no _ _ _ _ _ _ (by omega)]
    rfl
  · subst e
    rw [show 4 + p - 1 = p + 3 by omega, show 4 + q - 1 = q + 3 by omega]
    repeat rw [no _ _ _ _ _ _ (by omega)]
    rw [ye]
    repeat rw [no _ _ _ _ _ _ (by omega)]
    rfl
  · subst e
    rw [show 5 + p - 1 = p + 4 by omega, show 5 + q - 1 = q + 4 by omega]
    repeat rw [no _ _ _ _ _ _ (by omega)]
    rw [ye]
    repeat rw [no _ _ _ _ _ _ (by omega)]
    rfl
  · subst e
    rw [show 6 + p - 1 = p + 5 by omega, show 6 + q - 1 = q + 5 by omega]
    repeat rw [no _ _ _ _ _ _ (by omega)]
    rw [ye]
    repeat rw [no _ _ _ _ _ _ (by omega)]
    rfl
  · subst e
    rw [show 7 + p - 1 = p + 6 by omega, show 7 + q - 1 = q + 6 by omega]
    repeat rw [no _ _ _ _ _ _ (by omega)]
    rw [ye]
    repeat rw [no _ _ _ _ _ _ (by omega)]
    rfl
  · subst e
    rw [show 8 + p - 1 = p + 7 by omega, show 8 + q - 1 = q + 7 by omega]
    repeat rw [no _ _ _ _ _ _ (by omega)]
    rw [ye]
    repeat rw [no _ _ _ _ _ _ (by omega)]
    rfl
  · subst e
    rw [show 9 + p - 1 = p + 8 by omega, show 9 + q - 1 = q + 8 by omega]
    repeat rw [no _ _ _ _ _ _ (by omega)]
    rw [ye]
    repeat rw [no _ _ _ _ _ _ (by omega)]
    rfl
  · subst e
    rw [show 10 + p - 1 = p + 9 by omega, show 10 + q - 1 = q + 9 by omega]
    repeat rw [no _ _ _ _ _ _ (by omega)]
    rw [ye]
    repeat rw [no _ _ _ _ _ _ (by omega)]
    rfl
  · subst e
    rw [show 11 + p - 1 = p + 10 by omega, show 11 + q - 1 = q + 10 by omega]
    repeat rw [no _ _ _ _ _ _ (by omega)]
    rw [ye]
    repeat rw [no _ _ _ _ _ _ (by omega)]
    rfl
  · subst e
    rw [show 12 + p - 1 = p + 11 by omega, show 12 + q - 1 = q + 11 by omega]
    repeat rw [no _ _ _ _ _ _ (by omega)]
    rw [ye]
    repeat rw [no _ _ _ _ _ _ (by omega)]
    rfl
  · subst e
    rw [show 13 + p - 1 = p + 12 by omega, show 13 + q - 1 = q + 12 by omega]
    repeat rw [no _ _ _ _ _ _ (by omega)]
    rw [ye]
    repeat rw [no _ _ _ _ _ _ (by omega)]
    rfl
  · subst e
    rw [show 14 + p - 1 = p + 13 by omega, show 14 + q - 1 = q + 13 by omega]
    repeat rw [no _ _ _ _ _ _ (by omega)]
    rw [ye]
    repeat rw [no _ _ _ _ _ _ (by omega)]
    rfl
theorem tkSt_CI {σ : ST} {q p : Nat} (hp : blkP p) (hq : blkP q) (hn : q ≠ p) (h : CI (bk σ q)) (g : CI (bk σ p)) : CI (bk (tkSt σ q p) p) :=
  CI_mix h g (fun r i r2 r14 z => by rw [tkSt_at hp hq hn r2 r14, if_pos z]) (fun r i r2 r14 z => by rw [tkSt_at hp hq hn r2 r14, if_neg z])
theorem bk_cg {σ σ' : ST} {p : Nat} (h : ∀ a, p < a → a < p + 14 → σ' a = σ a) {r : Nat} (r2 : 2 ≤ r) (r14 : r ≤ 14) : bk σ' p r = bk σ p r := by
  unfold bk
  exact h _ (by omega) (by omega)
theorem CI_cgr {c c' : ST} (h : CI c) (e : ∀ q, 2 ≤ q → q ≤ 14 → c' q = c q) : CI c' :=
  CI_mix h h (fun q i a b _ => by rw [e q a b]) (fun q i a b _ => by rw [e q a b])
theorem Rel_cgr {c c' σ σ' : ST} (h : Rel c σ) (e : ∀ q, 2 ≤ q → q ≤ 14 → c' q = c q) (hm : ∀ j, j < 370 → σ' 111 j = σ 111 j) : Rel c' σ' :=
  Rel_live h (CI_cgr h.ci e) (fun q i a b _ => by rw [e q a b]) hm
theorem blk_far {p q : Nat} (hp : blkP p) (hq : blkP q) (h : p ≠ q) : p + 15 ≤ q ∨ q + 15 ≤ p := by
  unfold blkP at hp hq
  omega
theorem blk_rng {p : Nat} (hp : blkP p) : 1 ≤ p ∧ p + 14 < 108 ∧ (p = 1 ∨ 18 ≤ p) := by
  unfold blkP at hp
  omega
/-- all that the law keeps of class and model -/
def INV (σ : ST) (b : Nat → Nat) : Prop := Rel σ σ ∧ TX σ σ ∧ okB b ∧ (∀ i j, i < 6 → j < 6 → i ≠ j → b i ≠ b j) ∧ (0 ≤ σ 16 1 ∧ σ 16 1 ≤ 6) ∧ σ 110 3 = σ 16 1 ∧ (∀ k, k < 6 → CI (bk σ (b k))) ∧ ∀ k : Nat, (k : Int) < σ 16 1 → Rel (bk σ (b k)) (sv σ k)
/-- nothing that is kept has changed -/
theorem INV_cg {σ σ' : ST} {b : Nat → Nat} (h : INV σ b) (hr : ∀ q, q ≠ 15 → q < 114 → q ≠ 110 → σ' q = σ q) (h3 : σ' 110 3 = σ 110 3) (h5 : σ' 110 5 = σ 110 5) : INV σ' b := by
  obtain ⟨i1, i2, i3, i4, i5, i6, i7, i8⟩ := h
  have e16 : σ' 16 = σ 16 := hr 16 (by omega) (by omega) (by omega)
  have eb : ∀ k, k < 6 → ∀ a, b k < a → a < b k + 14 → σ' a = σ a := fun k hk a a1 a2 => by
    have q := blk_rng (i3 k hk).1
    have q2 := (i3 k hk).2
    exact hr a (by omega) (by omega) (by omega)
  refine ⟨Rel_cgr i1 (fun q q2 q14 => hr q (by omega) (by omega) (by omega)) (fun j _ => by rw [hr 111 (by omega) (by omega) (by omega)]), ?_, i3, i4, by rw [e16]; exact i5, by rw [h3, e16]; exact i6, fun k hk => CI_cgr (i7 k hk) (fun r r2 r14 => bk_cg (eb k hk) r2 r14), fun k hk => ?_⟩
  · obtain ⟨⟨t0, t1⟩, t2, t3, t4⟩ := i2
    unfold TX TI
    rw [hr 108 (by omega) (by omega) (by omega), hr 109 (by omega) (by omega) (by omega), hr 113 (by omega) (by omega) (by omega), h5]
    exact ⟨⟨t0, t1⟩, t2, t3, t4⟩
  · rw [e16] at hk
    refine Rel_cgr (i8 k hk) (fun r r2 r14 => bk_cg (eb k (by omega)) r2 r14) (fun j _ => ?_)
    show σ' 112 (370 * k + j) = σ 112 (370 * k + j)
    rw [hr 112 (by omega) (by omega) (by omega)]
