/-! the text: the model's reading, and the class's automaton -/
def TX (c σ : ST) : Prop := TI c ∧ σ 110 5 = c 108 1 ∧ (∀ k : Nat, (k : Int) < c 108 1 → σ 113 k = c 109 k) ∧ ∀ k, 0 ≤ σ 113 k ∧ σ 113 k ≤ 126
def NW (c σ : ST) : Prop := (0 ≤ σ 110 8 ∧ σ 110 8 ≤ c 108 1) ∧ 0 ≤ dfR (c 109) (σ 110 8).toNat ∧ ((σ 110 8 = c 108 1 ∧ ¬ meP (dfR (c 109) (σ 110 8).toNat)) ∨ (σ 110 8 < c 108 1 ∧ nxF (dfR (c 109) (σ 110 8).toNat) (cdF c (σ 110 8)) = -1))
def WE (c : ST) (f p s : Int) (σ : ST) : Prop := σ 110 8 = p ∧ (0 ≤ f ∧ f ≤ p ∧ p ≤ c 108 1) ∧ dfR (c 109) p.toNat = s ∧ (0 ≤ s ∧ s ≤ 14) ∧ IV c f p s.toNat ∧ ∀ k : Int, f ≤ k → k < p → cdF c k ≠ 59
theorem no_s {c : ST} {f p : Int} (h : ∀ k : Int, f ≤ k → k < p → cdF c k ≠ 59) (q : cdF c p ≠ 59) : ∀ k : Int, f ≤ k → k < p + 1 → cdF c k ≠ 59 := fun k k0 k1 => by
  rcases (show k < p ∨ k = p by omega) with g | g
  · exact h k k0 g
  · rw [g]; exact q
def PD (c : ST) (f p s : Int) (σ : ST) : Prop := TX c σ ∧ ((σ 110 9 = 1 ∧ WE c f p s σ) ∨ (σ 110 9 = 0 ∧ NW c σ))
def FT0 (σ σ' : ST) : Prop := (∀ q, q ≠ 110 → σ' q = σ q) ∧ ∀ k, k ≠ 8 → k ≠ 9 → σ' 110 k = σ 110 k
theorem FT0.rf (σ : ST) : FT0 σ σ := ⟨fun _ _ => rfl, fun _ _ _ => rfl⟩
theorem FT0.tr {a b d : ST} (h : FT0 a b) (g : FT0 b d) : FT0 a d := ⟨fun q hq => (g.1 q hq).trans (h.1 q hq), fun k h8 h9 => (g.2 k h8 h9).trans (h.2 k h8 h9)⟩
theorem FT0_8 (σ : ST) (v : Int) : FT0 σ (up2 σ 110 8 v) := ⟨fun q hq => up2_off _ hq, fun k h8 _ => up2_el _ _ _ h8⟩
theorem FT0_9 (σ : ST) (v : Int) : FT0 σ (up2 σ 110 9 v) := ⟨fun q hq => up2_off _ hq, fun k _ h9 => up2_el _ _ _ h9⟩
theorem FT0_tk (σ : ST) (a b : Int) : FT0 σ (tkS σ a b) := (FT0_9 _ _).tr (FT0_8 _ _)
theorem TX.fr {c σ σ' : ST} (h : TX c σ) (g : FT0 σ σ') : TX c σ' := by
  obtain ⟨h1, h2, h3, h4⟩ := h
  unfold TX
  rw [g.2 5 (by omega) (by omega), g.1 113 (by omega)]
  exact ⟨h1, h2, h3, h4⟩
theorem sg_at {c σ : ST} (h : TX c σ) (h0 : 0 ≤ σ 110 8) : sgM σ = if σ 110 8 < c 108 1 then cdF c (σ 110 8) else 0 := by
  unfold sgM
  rw [h.2.1]
  by_cases g : σ 110 8 < c 108 1
  · rw [if_pos g, if_pos g, h.2.2.1 _ (by omega)]
    unfold cdF
    rw [if_pos g]
  · rw [if_neg g, if_neg g]
theorem df_s {c : ST} {p : Int} (p0 : 0 ≤ p) (p1 : p < c 108 1) : dfR (c 109) (p + 1).toNat = nxF (dfR (c 109) p.toNat) (cdF c p) := by
  rw [show (p + 1).toNat = p.toNat + 1 by omega]
  show nxF (dfR (c 109) p.toNat) (c 109 p.toNat) = _
  unfold cdF
  rw [if_pos p1]
theorem tk_1 {σ : ST} {a b : Int} (h : σ 110 9 = 1 ∧ a ≤ sgM σ ∧ sgM σ ≤ b) : tkS σ a b 110 9 = 1 ∧ tkS σ a b 110 8 = σ 110 8 + 1 := by
  have e : tkW σ a b = 1 := by unfold tkW; rw [if_pos h]
  unfold tkS
  rw [e, up2_el _ _ _ (by omega), up2_at, up2_at]
  exact ⟨rfl, rfl⟩
theorem tk_0 {σ : ST} {a b : Int} (h : ¬ (σ 110 9 = 1 ∧ a ≤ sgM σ ∧ sgM σ ≤ b)) : tkS σ a b 110 9 = 0 ∧ tkS σ a b 110 8 = σ 110 8 := by
  have e : tkW σ a b = 0 := by unfold tkW; rw [if_neg h]
  unfold tkS
  rw [e, up2_el _ _ _ (by omega), up2_at, up2_at]
  exact ⟨rfl, by omega⟩
theorem NW.of {c σ σ' : ST} (h : NW c σ) (e : σ' 110 8 = σ 110 8) : NW c σ' := by
  unfold NW
  rw [e]
  exact h
theorem tk_PD {c σ : ST} {f p s a b : Int} (h : PD c f p s σ) (a1 : 1 ≤ a)
    (hin : a ≤ cdF c p → cdF c p ≤ b → cdF c p ≠ 59 ∧ nxF s (cdF c p) ≠ -1)
    (hout : σ 110 9 = 1 → p < c 108 1 → ¬ (a ≤ cdF c p ∧ cdF c p ≤ b) → nxF s (cdF c p) = -1) (hm : ¬ meP s) :
    PD c f (p + 1) (nxF s (cdF c p)) (tkS σ a b) ∧ FT0 σ (tkS σ a b) ∧ (tkS σ a b 110 9 = 1 → σ 110 9 = 1 ∧ sgM σ = cdF c p ∧ a ≤ cdF c p ∧ cdF c p ≤ b ∧ p < c 108 1) := by
  obtain ⟨hT, h⟩ := h
  have hT' := hT.fr (FT0_tk σ a b)
  rcases h with ⟨h9, h8, hp, hd, hs, hi, hno⟩ | ⟨h9, hN⟩
  · have hsg := sg_at hT (by omega)
    rw [h8] at hsg
    by_cases g : p < c 108 1
    · rw [if_pos g] at hsg
      by_cases r : a ≤ cdF c p ∧ cdF c p ≤ b
      · obtain ⟨t9, t8⟩ := tk_1 (σ := σ) (a := a) (b := b) ⟨h9, by omega, by omega⟩
        obtain ⟨q1, q2⟩ := hin r.1 r.2
        have hr := nxF_rng s (cdF c p)
        refine ⟨⟨hT', Or.inl ⟨t9, by omega, by omega, ?_, by omega, ?_, no_s hno q1⟩⟩, FT0_tk _ _ _, fun _ => ⟨h9, hsg, r.1, r.2, g⟩⟩
        · rw [df_s (by omega) g, hd]
        · exact IV_step hs.1 hs.2 hT.1 hi rfl q2 q1
      · obtain ⟨t9, t8⟩ := tk_0 (σ := σ) (a := a) (b := b) (by omega)
        refine ⟨⟨hT', Or.inr ⟨t9, ?_⟩⟩, FT0_tk _ _ _, fun z => by omega⟩
        unfold NW
        rw [t8, h8, hd]
        exact ⟨by omega, by omega, Or.inr ⟨g, hout h9 g r⟩⟩
    · rw [if_neg g] at hsg
      obtain ⟨t9, t8⟩ := tk_0 (σ := σ) (a := a) (b := b) (by omega)
      refine ⟨⟨hT', Or.inr ⟨t9, ?_⟩⟩, FT0_tk _ _ _, fun z => by omega⟩
      unfold NW
      rw [t8, h8, hd]
      exact ⟨by omega, by omega, Or.inl ⟨by omega, hm⟩⟩
  · obtain ⟨t9, t8⟩ := tk_0 (σ := σ) (a := a) (b := b) (by omega)
    exact ⟨⟨hT', Or.inr ⟨t9, hN.of t8⟩⟩, FT0_tk _ _ _, fun z => by omega⟩
theorem nx_c {s c : Int} (h : c ≠ 59) : nxF s c = if s = 0 then afF c else if s = 2 then (if c = 58 then 3 else ooF 61 61 c 8) else if s = 4 then ooF 43 43 c 5 else if s = 7 then ooF 61 61 c 8 else if s = 8 then (if c = 48 then 14 else ooF 49 57 c 9) else if s = 9 then ooF 48 57 c 14 else if s = 12 then (if c = 49 then 13 else ooF 50 57 c 14) else if s = 13 then ooF 48 50 c 14 else ooF 97 104 c (alF s) := by
  unfold nxF
  rw [if_neg h]
/-- a letter: the states 1, 3, 5, 6, 10, 11 -/
theorem nx_let {s : Int} (hs : s = 1 ∨ s = 3 ∨ s = 5 ∨ s = 6 ∨ s = 10 ∨ s = 11) (c : Int) : nxF s c = if 97 ≤ c ∧ c ≤ 104 then alF s else -1 := by
  unfold nxF ooF
  rcases hs with rfl | rfl | rfl | rfl | rfl | rfl
  all_goals
    (repeat' split) <;> omega
theorem al_let {s : Int} (hs : s = 1 ∨ s = 3 ∨ s = 5 ∨ s = 6 ∨ s = 10 ∨ s = 11) : 2 ≤ alF s := by
  unfold alF
  rcases hs with rfl | rfl | rfl | rfl | rfl | rfl
  all_goals
    (repeat' split) <;> omega
theorem tk_let {c σ : ST} {f p s : Int} (hs : s = 1 ∨ s = 3 ∨ s = 5 ∨ s = 6 ∨ s = 10 ∨ s = 11) (h : PD c f p s σ) :
    PD c f (p + 1) (alF s) (tkS σ 97 104) ∧ FT0 σ (tkS σ 97 104) ∧ (tkS σ 97 104 110 9 = 1 → σ 110 9 = 1 ∧ sgM σ = cdF c p ∧ 97 ≤ cdF c p ∧ cdF c p ≤ 104 ∧ p < c 108 1) := by
  have ha := al_let hs
  obtain ⟨q1, q2, q3⟩ := tk_PD (a := 97) (b := 104) h (by omega) (fun x y => by rw [nx_let hs, if_pos ⟨x, y⟩]; omega) (fun _ _ g => by rw [nx_let hs, if_neg g]) (by unfold meP; omega)
  refine ⟨?_, q2, q3⟩
  obtain ⟨q0, q1⟩ := q1
  refine ⟨q0, ?_⟩
  rcases q1 with ⟨w, hw⟩ | w
  · have r := q3 w
    rw [nx_let hs, if_pos ⟨r.2.2.1, r.2.2.2.1⟩] at hw
    exact Or.inl ⟨w, hw⟩
  · exact Or.inr w
/-- the end of an order: well, and nothing more belongs to it; or broken -/
def EN (c : ST) (f : Int) (σ : ST) (P : Int → Prop) : Prop := TX c σ ∧ ((σ 110 9 = 1 ∧ ∃ e s, WE c f e s σ ∧ meP s ∧ (e < c 108 1 → cdF c e ≠ 59 → nxF s (cdF c e) = -1) ∧ P e) ∨ (σ 110 9 = 0 ∧ NW c σ))
def nuS (σ : ST) : ST := if tkS σ 48 57 110 9 = 1 ∧ 0 < sgM σ - 48 ∧ 48 ≤ sgM (tkS σ 48 57) ∧ sgM (tkS σ 48 57) ≤ 57 then tkS (tkS σ 48 57) 48 57 else tkS σ 48 57
def nuV (σ : ST) : Int := if tkS σ 48 57 110 9 = 1 ∧ 0 < sgM σ - 48 ∧ 48 ≤ sgM (tkS σ 48 57) ∧ sgM (tkS σ 48 57) ≤ 57 then 10 * (sgM σ - 48) + (sgM (tkS σ 48 57) - 48) else sgM σ - 48
def rgS (σ : ST) : ST := if tkS σ 49 57 110 9 = 1 ∧ 1 + (sgM σ - 49) = 1 ∧ 48 ≤ sgM (tkS σ 49 57) ∧ sgM (tkS σ 49 57) ≤ 50 then tkS (tkS σ 49 57) 48 50 else tkS σ 49 57
def rgV (σ : ST) : Int := if tkS σ 49 57 110 9 = 1 ∧ 1 + (sgM σ - 49) = 1 ∧ 48 ≤ sgM (tkS σ 49 57) ∧ sgM (tkS σ 49 57) ≤ 50 then 10 + (sgM (tkS σ 49 57) - 48) else 1 + (sgM σ - 49)
theorem FT0_nu (σ : ST) : FT0 σ (nuS σ) := by
  unfold nuS
  split
  · exact (FT0_tk _ _ _).tr (FT0_tk _ _ _)
  · exact FT0_tk _ _ _
theorem FT0_rg (σ : ST) : FT0 σ (rgS σ) := by
  unfold rgS
  split
  · exact (FT0_tk _ _ _).tr (FT0_tk _ _ _)
  · exact FT0_tk _ _ _
theorem nx_8 (c : Int) : nxF 8 c = if c = 48 then 14 else if 49 ≤ c ∧ c ≤ 57 then 9 else -1 := by
  unfold nxF ooF
  (repeat' split) <;> omega
theorem nx_9 (c : Int) (h : c ≠ 59) : nxF 9 c = if 48 ≤ c ∧ c ≤ 57 then 14 else -1 := by
  unfold nxF ooF
  (repeat' split) <;> omega
theorem nx_12 (c : Int) : nxF 12 c = if c = 49 then 13 else if 50 ≤ c ∧ c ≤ 57 then 14 else -1 := by
  unfold nxF ooF
  (repeat' split) <;> omega
theorem nx_13 (c : Int) (h : c ≠ 59) : nxF 13 c = if 48 ≤ c ∧ c ≤ 50 then 14 else -1 := by
  unfold nxF ooF
  (repeat' split) <;> omega
theorem nx_14 (c : Int) (h : c ≠ 59) : nxF 14 c = -1 := by
  unfold nxF ooF alF
  (repeat' split) <;> omega
theorem nx_4 (c : Int) (h : c ≠ 59) : nxF 4 c = if c = 43 then 5 else -1 := by
  unfold nxF ooF
  (repeat' split) <;> omega
theorem nu_EN {c σ : ST} {f p : Int} (h : PD c f p 8 σ) : EN c f (nuS σ) (fun e => nuV σ = nbF c p (e - p).toNat) := by
  obtain ⟨q1, q2, q3⟩ := tk_PD (a := 48) (b := 57) h (by omega) (fun x y => ⟨by omega, by rw [nx_8]; (repeat' split) <;> omega⟩) (fun _ _ g => by rw [nx_8, if_neg (by omega), if_neg (by omega)]) (by unfold meP; omega)
  obtain ⟨⟨T1, q1⟩, -⟩ : PD c f (p + 1) (nxF 8 (cdF c p)) (tkS σ 48 57) ∧ True := ⟨q1, trivial⟩
  rcases q1 with ⟨w, hw⟩ | ⟨w, hw⟩
  · obtain ⟨w0, wsg, wa, wb, wl⟩ := q3 w
    have hw0 := hw
    obtain ⟨w8, wp, wd, ws, wi⟩ := hw
    have sg1 := sg_at T1 (by omega)
    rw [w8] at sg1
    have hb := cdF_rng h.1.1 (p + 1)
    have n1 : nbF c p (p + 1 - p).toNat = cdF c p - 48 := by rw [show (p + 1 - p).toNat = 1 by omega, nb1]
    by_cases d : tkS σ 48 57 110 9 = 1 ∧ 0 < sgM σ - 48 ∧ 48 ≤ sgM (tkS σ 48 57) ∧ sgM (tkS σ 48 57) ≤ 57
    · have g : p + 1 < c 108 1 := by
        rcases Int.lt_or_le (p + 1) (c 108 1) with g | g
        · exact g
        · rw [if_neg (by omega)] at sg1; omega
      rw [if_pos g] at sg1
      have e9 : nxF 8 (cdF c p) = 9 := by rw [nx_8, if_neg (by omega), if_pos (by omega)]
      rw [e9] at hw0
      have P1 : PD c f (p + 1) 9 (tkS σ 48 57) := ⟨T1, Or.inl ⟨w, hw0⟩⟩
      obtain ⟨u9, u8⟩ := tk_1 (σ := tkS σ 48 57) (a := 48) (b := 57) ⟨d.1, d.2.2⟩
      unfold EN nuS nuV
      rw [if_pos d, if_pos d]
      refine ⟨T1.fr (FT0_tk _ _ _), Or.inl ⟨u9, p + 2, 14, ⟨by omega, by omega, ?_, by omega, ?_, ?_⟩, by unfold meP; omega, fun _ hh => nx_14 _ hh, ?_⟩⟩
      · rw [show p + 2 = p + 1 + 1 by omega, df_s (by omega) g, hw0.2.2.1, nx_9 _ (by omega), if_pos (by omega)]
      · have := IV_step (s := 9) (t := 14) (by omega) (by omega) h.1.1 hw0.2.2.2.2.1 (by rw [nx_9 _ (by omega), if_pos (by omega)]) (by omega) (by omega)
        rw [show p + 2 = p + 1 + 1 by omega]
        exact this
      · rw [show p + 2 = p + 1 + 1 by omega]
        exact no_s hw0.2.2.2.2.2 (by omega)
      · show _ = nbF c p (p + 2 - p).toNat
        rw [show (p + 2 - p).toNat = 2 by omega, nb2, wsg, sg1]
    · unfold EN nuS nuV
      rw [if_neg d, if_neg d]
      refine ⟨T1, Or.inl ⟨w, p + 1, nxF 8 (cdF c p), hw0, ?_, fun g hh => ?_, by show _ = nbF c p (p + 1 - p).toNat; rw [n1, wsg]⟩⟩
      · rw [nx_8]; unfold meP
        split
        · omega
        · rw [if_pos (by omega)]; omega
      · rw [if_pos g] at sg1
        by_cases z : cdF c p = 48
        · rw [show nxF 8 (cdF c p) = 14 by rw [nx_8, if_pos z]]; exact nx_14 _ hh
        · rw [show nxF 8 (cdF c p) = 9 by rw [nx_8, if_neg z, if_pos (by omega)], nx_9 _ hh, if_neg (by omega)]
  · have d : ¬ (tkS σ 48 57 110 9 = 1 ∧ 0 < sgM σ - 48 ∧ 48 ≤ sgM (tkS σ 48 57) ∧ sgM (tkS σ 48 57) ≤ 57) := by omega
    unfold EN nuS
    rw [if_neg d]
    exact ⟨T1, Or.inr ⟨w, hw⟩⟩
theorem rg_EN {c σ : ST} {f p : Int} (h : PD c f p 12 σ) : EN c f (rgS σ) (fun e => rgV σ = nbF c p (e - p).toNat) := by
  obtain ⟨q1, q2, q3⟩ := tk_PD (a := 49) (b := 57) h (by omega) (fun x y => ⟨by omega, by rw [nx_12]; (repeat' split) <;> omega⟩) (fun _ _ g => by rw [nx_12, if_neg (by omega), if_neg (by omega)]) (by unfold meP; omega)
  obtain ⟨⟨T1, q1⟩, -⟩ : PD c f (p + 1) (nxF 12 (cdF c p)) (tkS σ 49 57) ∧ True := ⟨q1, trivial⟩
  rcases q1 with ⟨w, hw⟩ | ⟨w, hw⟩
  · obtain ⟨w0, wsg, wa, wb, wl⟩ := q3 w
    have hw0 := hw
    obtain ⟨w8, wp, wd, ws, wi⟩ := hw
    have sg1 := sg_at T1 (by omega)
    rw [w8] at sg1
    have n1 : nbF c p (p + 1 - p).toNat = cdF c p - 48 := by rw [show (p + 1 - p).toNat = 1 by omega, nb1]
    by_cases d : tkS σ 49 57 110 9 = 1 ∧ 1 + (sgM σ - 49) = 1 ∧ 48 ≤ sgM (tkS σ 49 57) ∧ sgM (tkS σ 49 57) ≤ 50
    · have g : p + 1 < c 108 1 := by
        rcases Int.lt_or_le (p + 1) (c 108 1) with g | g
        · exact g
        · rw [if_neg (by omega)] at sg1; omega
      rw [if_pos g] at sg1
      have e9 : nxF 12 (cdF c p) = 13 := by rw [nx_12, if_pos (by omega)]
      rw [e9] at hw0
      obtain ⟨u9, u8⟩ := tk_1 (σ := tkS σ 49 57) (a := 48) (b := 50) ⟨d.1, d.2.2⟩
      unfold EN rgS rgV
      rw [if_pos d, if_pos d]
      refine ⟨T1.fr (FT0_tk _ _ _), Or.inl ⟨u9, p + 2, 14, ⟨by omega, by omega, ?_, by omega, ?_, ?_⟩, by unfold meP; omega, fun _ hh => nx_14 _ hh, ?_⟩⟩
      · rw [show p + 2 = p + 1 + 1 by omega, df_s (by omega) g, hw0.2.2.1, nx_13 _ (by omega), if_pos (by omega)]
      · have := IV_step (s := 13) (t := 14) (by omega) (by omega) h.1.1 hw0.2.2.2.2.1 (by rw [nx_13 _ (by omega), if_pos (by omega)]) (by omega) (by omega)
        rw [show p + 2 = p + 1 + 1 by omega]
        exact this
      · rw [show p + 2 = p + 1 + 1 by omega]
        exact no_s hw0.2.2.2.2.2 (by omega)
      · show _ = nbF c p (p + 2 - p).toNat
        rw [show (p + 2 - p).toNat = 2 by omega, nb2, sg1]; omega
    · unfold EN rgS rgV
      rw [if_neg d, if_neg d]
      refine ⟨T1, Or.inl ⟨w, p + 1, nxF 12 (cdF c p), hw0, ?_, fun g hh => ?_, by show _ = nbF c p (p + 1 - p).toNat; rw [n1, wsg]; omega⟩⟩
      · rw [nx_12]; unfold meP
        split
        · omega
        · rw [if_pos (by omega)]; omega
      · rw [if_pos g] at sg1
        by_cases z : cdF c p = 49
        · rw [show nxF 12 (cdF c p) = 13 by rw [nx_12, if_pos z], nx_13 _ hh, if_neg (by omega)]
        · rw [show nxF 12 (cdF c p) = 14 by rw [nx_12, if_neg z, if_pos (by omega)]]; exact nx_14 _ hh
  · have d : ¬ (tkS σ 49 57 110 9 = 1 ∧ 1 + (sgM σ - 49) = 1 ∧ 48 ≤ sgM (tkS σ 49 57) ∧ sgM (tkS σ 49 57) ≤ 50) := by omega
    unfold EN rgS
    rw [if_neg d]
    exact ⟨T1, Or.inr ⟨w, hw⟩⟩
