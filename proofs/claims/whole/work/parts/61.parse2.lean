/-! an order read -/
def ev (μ : ST) : ST := up2 μ 110 8 (μ 110 8 + 1)
def lyO (σ : ST) (w x y z : Int) : ST := if σ 110 9 = 1 then up2 (up2 (up2 (up2 (up2 σ 115 (4 * σ 110 11).toNat w) 115 (4 * σ 110 11 + 1).toNat x) 115 (4 * σ 110 11 + 2).toNat y) 115 (4 * σ 110 11 + 3).toNat z) 110 11 (σ 110 11 + 1) else σ
def raS (σ : ST) : ST := if tkS σ 97 104 110 9 = 1 ∧ sgM (tkS σ 97 104) = 61 then lyO (nuS (ev (tkS σ 97 104))) 1 (sgM σ - 97) (nuV (ev (tkS σ 97 104))) 0 else if tkS (tkS (tkS σ 97 104) 58 58) 97 104 110 9 = 1 ∧ sgM (tkS (tkS (tkS σ 97 104) 58 58) 97 104) = 43 then lyO (tkS (ev (tkS (tkS (tkS σ 97 104) 58 58) 97 104)) 97 104) 2 (sgM σ - 97) (sgM (tkS (tkS σ 97 104) 58 58) - 97) (sgM (ev (tkS (tkS (tkS σ 97 104) 58 58) 97 104)) - 97) else lyO (tkS (tkS (tkS σ 97 104) 58 58) 97 104) 2 (sgM σ - 97) (sgM (tkS (tkS σ 97 104) 58 58) - 97) (-1)
def hdW (σ : ST) : Int := if σ 110 9 = 1 ∧ (sgM σ = 43 ∨ sgM σ = 45 ∨ sgM σ = 62 ∨ sgM σ = 110 ∨ sgM σ = 42) then 1 else 0
def hdS (σ : ST) : ST := up2 (up2 σ 110 9 (hdW σ)) 110 8 (σ 110 8 + hdW σ)
def roS (σ : ST) : ST := if hdW σ = 0 then hdS σ else if sgM σ = 43 then raS (hdS σ) else if sgM σ = 45 then lyO (nuS (tkS (tkS (hdS σ) 97 104) 61 61)) 4 (sgM (hdS σ) - 97) (nuV (tkS (tkS (hdS σ) 97 104) 61 61)) 0 else if sgM σ = 62 then lyO (tkS (tkS (hdS σ) 97 104) 97 104) 5 (sgM (hdS σ) - 97) (sgM (tkS (hdS σ) 97 104) - 97) 0 else if sgM σ = 110 then lyO (hdS σ) 6 0 0 0 else lyO (rgS (hdS σ)) 7 (rgV (hdS σ)) 0 0
def ORd (c : ST) (f e w x y z : Int) : Prop :=
  (w = 1 ∧ cdF c f = 43 ∧ cdF c (f + 2) = 61 ∧ x = letF c (f + 1) ∧ y = nbF c (f + 3) (e - (f + 3)).toNat) ∨
  (w = 2 ∧ cdF c f = 43 ∧ cdF c (f + 2) ≠ 61 ∧ x = letF c (f + 1) ∧ y = letF c (f + 3) ∧ z = afW c f e) ∨
  (w = 4 ∧ cdF c f = 45 ∧ x = letF c (f + 1) ∧ y = nbF c (f + 3) (e - (f + 3)).toNat) ∨
  (w = 5 ∧ cdF c f = 62 ∧ x = letF c (f + 1) ∧ y = letF c (f + 2)) ∨
  (w = 6 ∧ cdF c f = 110) ∨
  (w = 7 ∧ cdF c f = 42 ∧ x = nbF c (f + 1) (e - (f + 1)).toNat)
def RO (c : ST) (f m : Int) (σ0 μ : ST) : Prop := EN c f μ (fun e => f < e ∧ μ 110 11 = m + 1 ∧ ORd c f e (μ 115 (4 * m).toNat) (μ 115 (4 * m + 1).toNat) (μ 115 (4 * m + 2).toNat) (μ 115 (4 * m + 3).toNat) ∧ ∀ j, j < (4 * m).toNat → μ 115 j = σ0 115 j)
theorem ly_RO {c : ST} {f m : Int} {σ0 μ : ST} {w x y z : Int} (h : EN c f μ (fun e => f < e ∧ ORd c f e w x y z)) (hm : μ 110 11 = m) (m0 : 0 ≤ m) (h5 : μ 115 = σ0 115) : RO c f m σ0 (lyO μ w x y z) := by
  obtain ⟨hT, h⟩ := h
  rcases h with ⟨h9, e, s, hw, hs, hx, hfe, ho⟩ | ⟨h9, hN⟩
  · obtain ⟨ν, hν⟩ : ∃ ν, ν = up2 (up2 (up2 (up2 (up2 μ 115 (4 * m).toNat w) 115 (4 * m + 1).toNat x) 115 (4 * m + 2).toNat y) 115 (4 * m + 3).toNat z) 110 11 (m + 1) := ⟨_, rfl⟩
    have el : lyO μ w x y z = ν := by unfold lyO; rw [if_pos h9, hm, hν]
    have e5 : ∀ p i : Nat, p ≠ 115 → (p = 110 → i ≠ 11) → ν p i = μ p i := fun p i p1 p2 => by rw [hν, up2_no _ (by omega), up2_no _ (by omega), up2_no _ (by omega), up2_no _ (by omega), up2_no _ (by omega)]
    rw [el]
    refine ⟨⟨hT.1, by rw [e5 110 5 (by omega) (by omega)]; exact hT.2.1, fun k hk => by rw [e5 113 k (by omega) (by omega)]; exact hT.2.2.1 k hk, fun k => by rw [e5 113 k (by omega) (by omega)]; exact hT.2.2.2 k⟩, Or.inl ⟨by rw [e5 110 9 (by omega) (by omega)]; exact h9, e, s, ⟨by rw [e5 110 8 (by omega) (by omega)]; exact hw.1, hw.2⟩, hs, hx, hfe, ?_, ?_, fun j hj => ?_⟩⟩
    · rw [hν, up2_at]
    · have a0 : ν 115 (4 * m).toNat = w := by rw [hν, up2_no _ (by omega), up2_no _ (by omega), up2_no _ (by omega), up2_no _ (by omega), up2_at]
      have a1 : ν 115 (4 * m + 1).toNat = x := by rw [hν, up2_no _ (by omega), up2_no _ (by omega), up2_no _ (by omega), up2_at]
      have a2 : ν 115 (4 * m + 2).toNat = y := by rw [hν, up2_no _ (by omega), up2_no _ (by omega), up2_at]
      have a3 : ν 115 (4 * m + 3).toNat = z := by rw [hν, up2_no _ (by omega), up2_at]
      rw [a0, a1, a2, a3]
      exact ho
    · rw [hν, up2_no _ (by omega), up2_no _ (by omega), up2_no _ (by omega), up2_no _ (by omega), up2_no _ (by omega), h5]
  · have el : lyO μ w x y z = μ := by unfold lyO; rw [if_neg (by omega)]
    rw [el]
    exact ⟨hT, Or.inr ⟨h9, hN⟩⟩
theorem EN.mono {c : ST} {f : Int} {σ : ST} {P P' : Int → Prop} (h : EN c f σ P) (g : ∀ e s, σ 110 9 = 1 → WE c f e s σ → P e → P' e) : EN c f σ P' := by
  obtain ⟨hT, h⟩ := h
  rcases h with ⟨h9, e, s, hw, hs, hx, hp⟩ | h
  · exact ⟨hT, Or.inl ⟨h9, e, s, hw, hs, hx, g e s h9 hw hp⟩⟩
  · exact ⟨hT, Or.inr h⟩
/-- a sign that the state takes is gone over -/
theorem ev_PD {c : ST} {f p s x t : Int} {μ : ST} (hT : TX c μ) (h9 : μ 110 9 = 1) (hw : WE c f p s μ) (hx : sgM μ = x) (x0 : x ≠ 0) (x9 : x ≠ 59) (ht : nxF s x = t) (t1 : t ≠ -1) : PD c f (p + 1) t (ev μ) ∧ ev μ 110 9 = 1 ∧ cdF c p = x ∧ p < c 108 1 := by
  have hsg := sg_at hT (by have := hw.1; have := hw.2.1; omega)
  obtain ⟨w8, wp, wd, ws, wi⟩ := hw
  rw [w8, hx] at hsg
  have g : p < c 108 1 := by
    rcases Int.lt_or_le p (c 108 1) with g | g
    · exact g
    · rw [if_neg (by omega)] at hsg; omega
  rw [if_pos g] at hsg
  have hr := nxF_rng s x
  have e9 : ev μ 110 9 = 1 := by unfold ev; rw [up2_el _ _ _ (by omega)]; exact h9
  refine ⟨⟨hT.fr (FT0_8 _ _), Or.inl ⟨e9, ?_, by omega, ?_, by omega, ?_, no_s wi.2 (by omega)⟩⟩, e9, hsg.symm, g⟩
  · unfold ev; rw [up2_at, w8]
  · rw [df_s (by omega) g, wd, ← hsg, ht]
  · exact IV_step ws.1 ws.2 hT.1 wi.1 (by rw [← hsg]; exact ht) t1 (by rw [← hsg]; exact x9)
theorem nx_2 (c : Int) : nxF 2 c = if c = 58 then 3 else if c = 61 then 8 else -1 := by
  unfold nxF ooF
  (repeat' split) <;> omega
theorem nx_7 (c : Int) : nxF 7 c = if c = 61 then 8 else -1 := by
  unfold nxF ooF
  (repeat' split) <;> omega
theorem nx_0 (c : Int) : nxF 0 c = afF c := by
  unfold nxF
  by_cases h : c = 59
  · subst h; decide
  · rw [if_neg h, if_pos rfl]
theorem PD_EN {c : ST} {f p s : Int} {μ : ST} {P : Int → Prop} (h : PD c f p s μ) (hs : meP s) (hx : μ 110 9 = 1 → p < c 108 1 → cdF c p ≠ 59 → nxF s (cdF c p) = -1) (hP : μ 110 9 = 1 → P p) : EN c f μ P := by
  obtain ⟨hT, h⟩ := h
  rcases h with ⟨h9, hw⟩ | h
  · exact ⟨hT, Or.inl ⟨h9, p, s, hw, hs, fun a b => hx h9 a b, hP h9⟩⟩
  · exact ⟨hT, Or.inr h⟩
theorem PD.st {c : ST} {f p s t : Int} {μ : ST} (h : PD c f p s μ) (e : μ 110 9 = 1 → s = t) : PD c f p t μ := by
  obtain ⟨hT, h⟩ := h
  rcases h with ⟨h9, hw⟩ | h
  · have := e h9
    subst this
    exact ⟨hT, Or.inl ⟨h9, hw⟩⟩
  · exact ⟨hT, Or.inr h⟩
theorem PD.at {c : ST} {f p s : Int} {μ : ST} (h : PD c f p s μ) (h9 : μ 110 9 = 1) : WE c f p s μ := by
  rcases h.2 with ⟨-, hw⟩ | ⟨g, -⟩
  · exact hw
  · omega
theorem EN_lt {c : ST} {f q : Int} {μ : ST} {P : Int → Prop} (h : EN c f μ P) (hq : μ 110 9 = 1 → q < μ 110 8) : EN c f μ (fun e => q < e ∧ P e) := h.mono (fun e s w we hp => ⟨by have := hq w; have := we.1; omega, hp⟩)
theorem nu_8 (σ : ST) (h : nuS σ 110 9 = 1) : σ 110 8 < nuS σ 110 8 := by
  unfold nuS at h ⊢
  by_cases d : tkS σ 48 57 110 9 = 1 ∧ 0 < sgM σ - 48 ∧ 48 ≤ sgM (tkS σ 48 57) ∧ sgM (tkS σ 48 57) ≤ 57
  · rw [if_pos d] at h ⊢
    have t2 := tk_1 (σ := tkS σ 48 57) (a := 48) (b := 57) ⟨d.1, d.2.2⟩
    by_cases d0 : σ 110 9 = 1 ∧ 48 ≤ sgM σ ∧ sgM σ ≤ 57
    · have t1 := tk_1 d0; omega
    · have t1 := tk_0 d0; omega
  · rw [if_neg d] at h ⊢
    by_cases d0 : σ 110 9 = 1 ∧ 48 ≤ sgM σ ∧ sgM σ ≤ 57
    · have t1 := tk_1 d0; omega
    · have t1 := tk_0 d0; omega
theorem tk_9 {σ : ST} {a b : Int} (h : tkS σ a b 110 9 = 1) : σ 110 9 = 1 := by
  by_cases d0 : σ 110 9 = 1 ∧ a ≤ sgM σ ∧ sgM σ ≤ b
  · exact d0.1
  · have t1 := tk_0 d0; omega
theorem nu_9 (σ : ST) (h : nuS σ 110 9 = 1) : σ 110 9 = 1 := by
  unfold nuS at h
  split at h
  · exact tk_9 (tk_9 h)
  · exact tk_9 h
theorem rg_8 (σ : ST) (h : rgS σ 110 9 = 1) : σ 110 8 < rgS σ 110 8 := by
  unfold rgS at h ⊢
  by_cases d : tkS σ 49 57 110 9 = 1 ∧ 1 + (sgM σ - 49) = 1 ∧ 48 ≤ sgM (tkS σ 49 57) ∧ sgM (tkS σ 49 57) ≤ 50
  · rw [if_pos d] at h ⊢
    have t2 := tk_1 (σ := tkS σ 49 57) (a := 48) (b := 50) ⟨d.1, d.2.2⟩
    by_cases d0 : σ 110 9 = 1 ∧ 49 ≤ sgM σ ∧ sgM σ ≤ 57
    · have t1 := tk_1 d0; omega
    · have t1 := tk_0 d0; omega
  · rw [if_neg d] at h ⊢
    by_cases d0 : σ 110 9 = 1 ∧ 49 ≤ sgM σ ∧ sgM σ ≤ 57
    · have t1 := tk_1 d0; omega
    · have t1 := tk_0 d0; omega
theorem ra_RO {c σ : ST} {f m : Int} (h : PD c f (f + 1) 1 σ) (hf : cdF c f = 43) (hm : σ 110 11 = m) (m0 : 0 ≤ m) : RO c f m σ (raS σ) := by
  obtain ⟨P1, F1, Q1⟩ := tk_let (Or.inl rfl) h
  rw [show f + 1 + 1 = f + 2 by omega, show alF 1 = 2 by decide] at P1
  obtain ⟨X1, hX1⟩ : ∃ X1, X1 = tkS σ 97 104 := ⟨_, rfl⟩
  unfold raS
  rw [← hX1] at P1 F1 Q1 ⊢
  have l1 : X1 110 9 = 1 → sgM σ - 97 = letF c (f + 1) := fun w => by unfold letF; rw [(Q1 w).2.1]
  by_cases A : X1 110 9 = 1 ∧ sgM X1 = 61
  · rw [if_pos A]
    obtain ⟨P2, -, Z2, L2⟩ := ev_PD (t := 8) P1.1 A.1 (P1.at A.1) A.2 (by omega) (by omega) (by decide) (by omega)
    rw [show f + 2 + 1 = f + 3 by omega] at P2
    have E := nu_EN P2
    have Fn := (F1.tr (FT0_8 X1 _)).tr (FT0_nu (ev X1))
    have w2 : ev X1 110 9 = 1 := by unfold ev; rw [up2_el _ _ _ (by omega)]; exact A.1
    exact ly_RO ((EN_lt E (q := f) (fun w => by have h1 := nu_8 _ w; have h2 := (P2.at w2).1; omega)).mono (fun e s w9 we hp => ⟨hp.1, Or.inl ⟨rfl, hf, Z2, l1 A.1, hp.2⟩⟩)) ((Fn.2 11 (by omega) (by omega)).trans hm) m0 (Fn.1 115 (by omega))
  · rw [if_neg A]
    obtain ⟨P2, F2, Q2⟩ := tk_PD (a := 58) (b := 58) P1 (by omega) (fun x y => ⟨by omega, by rw [nx_2, if_pos (by omega)]; omega⟩) (fun w g r => by
      have hsg := sg_at P1.1 (by have := (P1.at w).1; have := (P1.at w).2.1; omega)
      rw [(P1.at w).1, if_pos g] at hsg
      rw [nx_2, if_neg (by omega), if_neg (by omega)]) (by unfold meP; omega)
    rw [show f + 2 + 1 = f + 3 by omega] at P2
    obtain ⟨X2, hX2⟩ : ∃ X2, X2 = tkS X1 58 58 := ⟨_, rfl⟩
    rw [← hX2] at P2 F2 Q2 ⊢
    have P2 := P2.st (t := 3) (fun w => by have := Q2 w; rw [nx_2, if_pos (by omega)])
    obtain ⟨P3, F3, Q3⟩ := tk_let (s := 3) (Or.inr (Or.inl rfl)) P2
    rw [show f + 3 + 1 = f + 4 by omega, show alF 3 = 4 by decide] at P3
    obtain ⟨X3, hX3⟩ : ∃ X3, X3 = tkS X2 97 104 := ⟨_, rfl⟩
    rw [← hX3] at P3 F3 Q3 ⊢
    have l2 : X2 110 9 = 1 → cdF c (f + 2) ≠ 61 := fun w => by have := Q2 w; omega
    have l3 : X3 110 9 = 1 → sgM X2 - 97 = letF c (f + 3) := fun w => by unfold letF; rw [(Q3 w).2.1]
    have l4 : X3 110 9 = 1 → sgM σ - 97 = letF c (f + 1) := fun w => l1 (Q2 (Q3 w).1).1
    by_cases B : X3 110 9 = 1 ∧ sgM X3 = 43
    · rw [if_pos B]
      obtain ⟨P4, w4, Z4, L4⟩ := ev_PD (t := 5) P3.1 B.1 (P3.at B.1) B.2 (by omega) (by omega) (by decide) (by omega)
      rw [show f + 4 + 1 = f + 5 by omega] at P4
      obtain ⟨P5, F5, Q5⟩ := tk_let (s := 5) (Or.inr (Or.inr (Or.inl rfl))) P4
      rw [show f + 5 + 1 = f + 6 by omega, show alF 5 = 14 by decide] at P5
      have Fn := (F1.tr (F2.tr (F3.tr (FT0_8 X3 _)))).tr F5
      refine ly_RO (PD_EN P5 (by unfold meP; omega) (fun _ _ hh => nx_14 _ hh) (fun w => ⟨by omega, Or.inr (Or.inl ⟨rfl, hf, l2 (Q3 B.1).1, l4 B.1, l3 B.1, ?_⟩)⟩)) ((Fn.2 11 (by omega) (by omega)).trans hm) m0 (Fn.1 115 (by omega))
      unfold afW letF
      rw [if_pos (by omega), (Q5 w).2.1]
    · rw [if_neg B]
      have Fn := F1.tr (F2.tr F3)
      refine ly_RO (PD_EN P3 (by unfold meP; omega) (fun w g hh => ?_) (fun w => ⟨by omega, Or.inr (Or.inl ⟨rfl, hf, l2 (Q3 w).1, l4 w, l3 w, ?_⟩)⟩)) ((Fn.2 11 (by omega) (by omega)).trans hm) m0 (Fn.1 115 (by omega))
      · have hsg := sg_at P3.1 (by have := (P3.at w).1; have := (P3.at w).2.1; omega)
        rw [(P3.at w).1, if_pos g] at hsg
        rw [nx_4 _ hh, if_neg (by omega)]
      · unfold afW
        rw [if_neg (by omega)]
theorem af_v {x : Int} (h : x = 43 ∨ x = 45 ∨ x = 62 ∨ x = 110 ∨ x = 42) : afF x ≠ -1 ∧ x ≠ 59 ∧ x ≠ 0 := by
  rcases h with rfl | rfl | rfl | rfl | rfl <;> decide
theorem af_n {x : Int} (h : ¬ (x = 43 ∨ x = 45 ∨ x = 62 ∨ x = 110 ∨ x = 42)) : afF x = -1 := by
  unfold afF
  (repeat' split) <;> omega
theorem hd_P {c σ : ST} {f : Int} (hT : TX c σ) (h9 : σ 110 9 = 1) (hw : WE c f f 0 σ) : (hdW σ = 0 → hdS σ 110 9 = 0 ∧ TX c (hdS σ) ∧ NW c (hdS σ)) ∧ (hdW σ ≠ 0 → (sgM σ = 43 ∨ sgM σ = 45 ∨ sgM σ = 62 ∨ sgM σ = 110 ∨ sgM σ = 42) ∧ sgM σ = cdF c f ∧ f < c 108 1 ∧ hdS σ 110 9 = 1 ∧ PD c f (f + 1) (afF (sgM σ)) (hdS σ)) ∧ FT0 σ (hdS σ) := by
  have hsg := sg_at hT (by have := hw.1; have := hw.2.1; omega)
  have F : FT0 σ (hdS σ) := (FT0_9 _ _).tr (FT0_8 _ _)
  have e9 : hdS σ 110 9 = hdW σ := by unfold hdS; rw [up2_el _ _ _ (by omega), up2_at]
  have e8 : hdS σ 110 8 = σ 110 8 + hdW σ := by unfold hdS; rw [up2_at]
  have hT' := hT.fr F
  obtain ⟨w8, wp, wd, ws, wi⟩ := hw
  rw [w8] at hsg
  refine ⟨fun z => ⟨by omega, hT', ?_⟩, fun z => ?_, F⟩
  · have hno : ¬ (sgM σ = 43 ∨ sgM σ = 45 ∨ sgM σ = 62 ∨ sgM σ = 110 ∨ sgM σ = 42) := fun y => by
      unfold hdW at z
      rw [if_pos ⟨h9, y⟩] at z
      omega
    unfold NW
    rw [show hdS σ 110 8 = f by omega, wd]
    refine ⟨by omega, by omega, ?_⟩
    by_cases g : f < c 108 1
    · rw [if_pos g] at hsg
      exact Or.inr ⟨g, by rw [nx_0, ← hsg]; exact af_n hno⟩
    · exact Or.inl ⟨by omega, by unfold meP; omega⟩
  · have hyes : sgM σ = 43 ∨ sgM σ = 45 ∨ sgM σ = 62 ∨ sgM σ = 110 ∨ sgM σ = 42 := by
      rcases Decidable.em (sgM σ = 43 ∨ sgM σ = 45 ∨ sgM σ = 62 ∨ sgM σ = 110 ∨ sgM σ = 42) with y | y
      · exact y
      · exfalso
        unfold hdW at z
        rw [if_neg (fun q => y q.2)] at z
        exact z rfl
    have hW : hdW σ = 1 := by unfold hdW; rw [if_pos ⟨h9, hyes⟩]
    have av := af_v hyes
    have g : f < c 108 1 := by
      rcases Int.lt_or_le f (c 108 1) with g | g
      · exact g
      · rw [if_neg (by omega)] at hsg; omega
    rw [if_pos g] at hsg
    have hr := nxF_rng 0 (sgM σ)
    rw [nx_0] at hr
    refine ⟨hyes, hsg, g, by omega, hT', Or.inl ⟨by omega, by omega, by omega, ?_, by omega, ?_, no_s wi.2 (by omega)⟩⟩
    · rw [df_s (by omega) g, wd, nx_0, hsg]
    · exact IV_step (by omega) (by omega) hT.1 wi.1 (by rw [nx_0, hsg]) av.1 (by rw [← hsg]; exact av.2.1)
theorem ro_RO {c σ : ST} {f m : Int} (hT : TX c σ) (h9 : σ 110 9 = 1) (hw : WE c f f 0 σ) (hm : σ 110 11 = m) (m0 : 0 ≤ m) : RO c f m σ (roS σ) := by
  obtain ⟨H0, H1, F⟩ := hd_P hT h9 hw
  have em : hdS σ 110 11 = m := (F.2 11 (by omega) (by omega)).trans hm
  have e5 : hdS σ 115 = σ 115 := F.1 115 (by omega)
  unfold roS
  by_cases z : hdW σ = 0
  · rw [if_pos z]
    obtain ⟨a, b, d⟩ := H0 z
    exact ⟨b, Or.inr ⟨a, d⟩⟩
  · rw [if_neg z]
    obtain ⟨hy, hf, hl, n9, hP⟩ := H1 z
    obtain ⟨h, hh⟩ : ∃ h, h = hdS σ := ⟨_, rfl⟩
    rw [← hh] at F em e5 n9 hP ⊢
    rcases hy with y | y | y | y | y
    · rw [if_pos y]
      rw [y, show afF 43 = 1 by decide] at hP
      obtain ⟨r1, r2⟩ := ra_RO hP (by omega) em m0
      refine ⟨r1, ?_⟩
      rcases r2 with ⟨u9, e, s, u1, u2, u3, u4, u5, u6, u7⟩ | r2
      · exact Or.inl ⟨u9, e, s, u1, u2, u3, u4, u5, u6, fun j hj => by rw [u7 j hj, e5]⟩
      · exact Or.inr r2
    · rw [if_neg (by omega), if_pos y]
      rw [y, show afF 45 = 6 by decide] at hP
      obtain ⟨P1, F1, Q1⟩ := tk_let (s := 6) (by omega) hP
      rw [show f + 1 + 1 = f + 2 by omega, show alF 6 = 7 by decide] at P1
      obtain ⟨P2, F2, Q2⟩ := tk_PD (a := 61) (b := 61) P1 (by omega) (fun x y => ⟨by omega, by rw [nx_7, if_pos (by omega)]; omega⟩) (fun _ _ r => by rw [nx_7, if_neg (by omega)]) (by unfold meP; omega)
      rw [show f + 2 + 1 = f + 3 by omega] at P2
      have P2 := P2.st (t := 8) (fun w => by have := Q2 w; rw [nx_7, if_pos (by omega)])
      have E := nu_EN P2
      have Fn := (F1.tr F2).tr (FT0_nu _)
      refine ly_RO ((EN_lt E (q := f) (fun w => ?_)).mono (fun e s w we hp => ⟨hp.1, Or.inr (Or.inr (Or.inl ⟨rfl, by omega, ?_, hp.2⟩))⟩)) ((Fn.2 11 (by omega) (by omega)).trans em) m0 ((Fn.1 115 (by omega)).trans e5)
      · have h1 := nu_8 _ w
        have h2 := nu_9 _ w
        have h3 := (P2.at h2).1
        omega
      · have h2 := nu_9 _ w
        unfold letF
        rw [(Q1 (Q2 h2).1).2.1]
    · rw [if_neg (by omega), if_neg (by omega), if_pos y]
      rw [y, show afF 62 = 10 by decide] at hP
      obtain ⟨P1, F1, Q1⟩ := tk_let (s := 10) (by omega) hP
      rw [show f + 1 + 1 = f + 2 by omega, show alF 10 = 11 by decide] at P1
      obtain ⟨P2, F2, Q2⟩ := tk_let (s := 11) (by omega) P1
      rw [show f + 2 + 1 = f + 3 by omega, show alF 11 = 14 by decide] at P2
      have Fn := F1.tr F2
      refine ly_RO (PD_EN P2 (by unfold meP; omega) (fun _ _ hh => nx_14 _ hh) (fun w => ⟨by omega, Or.inr (Or.inr (Or.inr (Or.inl ⟨rfl, by omega, ?_, ?_⟩)))⟩)) ((Fn.2 11 (by omega) (by omega)).trans em) m0 ((Fn.1 115 (by omega)).trans e5)
      · unfold letF
        rw [(Q1 (Q2 w).1).2.1]
      · unfold letF
        rw [(Q2 w).2.1]
    · rw [if_neg (by omega), if_neg (by omega), if_neg (by omega), if_pos y]
      rw [y, show afF 110 = 14 by decide] at hP
      exact ly_RO (PD_EN hP (by unfold meP; omega) (fun _ _ hh => nx_14 _ hh) (fun w => ⟨by omega, Or.inr (Or.inr (Or.inr (Or.inr (Or.inl ⟨rfl, by omega⟩))))⟩)) em m0 e5
    · rw [if_neg (by omega), if_neg (by omega), if_neg (by omega), if_neg (by omega)]
      rw [y, show afF 42 = 12 by decide] at hP
      have E := rg_EN hP
      have Fn := FT0_rg h
      refine ly_RO ((EN_lt E (q := f) (fun w => ?_)).mono (fun e s w we hp => ⟨hp.1, Or.inr (Or.inr (Or.inr (Or.inr (Or.inr ⟨rfl, by omega, hp.2⟩))))⟩)) ((Fn.2 11 (by omega) (by omega)).trans em) m0 ((Fn.1 115 (by omega)).trans e5)
      have h1 := rg_8 _ w
      have h3 := (hP.at n9).1
      omega
