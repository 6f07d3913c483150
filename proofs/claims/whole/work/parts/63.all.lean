/-! all orders of the text -/
def OD (c σ : ST) (i : Nat) (f e : Int) : Prop := ORd c f e (σ 115 (4 * i)) (σ 115 (4 * i + 1)) (σ 115 (4 * i + 2)) (σ 115 (4 * i + 3)) ∧ IV c f e (dfR (c 109) e.toNat).toNat ∧ meP (dfR (c 109) e.toNat) ∧ (∀ k : Int, f ≤ k → k < e → cdF c k ≠ 59) ∧ (0 ≤ f ∧ f < e ∧ e ≤ c 108 1)
def SGF (c σ : ST) (N : Nat) (F E : Nat → Int) : Prop := F 0 = 0 ∧ (∀ i, i < N → OD c σ i (F i) (E i)) ∧ ∀ i, i + 1 < N → cdF c (E i) = 59 ∧ F (i + 1) = E i + 1
theorem SGF.le {c σ : ST} {N : Nat} {F E : Nat → Int} (h : SGF c σ N F E) : ∀ i : Nat, i < N → (i : Int) ≤ F i
  | 0, _ => by rw [h.1]; omega
  | i + 1, hi => by
    have h1 := h.le i (by omega)
    have h2 := h.2.2 i hi
    have h3 := (h.2.1 i (by omega)).2.2.2.2
    omega
/-- the state of reading behind an order -/
def RS1 (c σ : ST) : Prop := TX c σ ∧ ((σ 110 9 = 1 ∧ ∃ (m : Nat) (F E : Nat → Int), SGF c σ (m + 1) F E ∧ σ 110 11 = (m : Int) + 1 ∧ σ 110 8 = E m ∧ (E m < c 108 1 → cdF c (E m) ≠ 59 → nxF (dfR (c 109) (E m).toNat) (cdF c (E m)) = -1)) ∨ (σ 110 9 = 0 ∧ NW c σ))
def FT1 (σ σ' : ST) : Prop := (∀ q, q ≠ 110 → q ≠ 115 → σ' q = σ q) ∧ ∀ k, k ≠ 8 → k ≠ 9 → k ≠ 11 → σ' 110 k = σ 110 k
theorem FT1.tr {a b d : ST} (h : FT1 a b) (g : FT1 b d) : FT1 a d := ⟨fun q q0 q5 => (g.1 q q0 q5).trans (h.1 q q0 q5), fun k h8 h9 h11 => (g.2 k h8 h9 h11).trans (h.2 k h8 h9 h11)⟩
theorem FT0.w {σ σ' : ST} (h : FT0 σ σ') : FT1 σ σ' := ⟨fun q q0 _ => h.1 q q0, fun k h8 h9 _ => h.2 k h8 h9⟩
theorem FT1_ly (σ : ST) (w x y z : Int) : FT1 σ (lyO σ w x y z) := by
  unfold lyO
  split
  · exact ⟨fun q q0 q5 => by rw [up2_off _ q0, up2_off _ q5, up2_off _ q5, up2_off _ q5, up2_off _ q5], fun k h8 h9 h11 => by rw [up2_no _ (by omega), up2_no _ (by omega), up2_no _ (by omega), up2_no _ (by omega), up2_no _ (by omega)]⟩
  · exact ⟨fun _ _ _ => rfl, fun _ _ _ _ => rfl⟩
theorem FT1_ra (σ : ST) : FT1 σ (raS σ) := by
  have F1 := FT0_tk σ 97 104
  have F3 := (F1.tr (FT0_tk _ 58 58)).tr (FT0_tk _ 97 104)
  unfold raS
  (repeat' split)
  · exact ((F1.tr (FT0_8 _ _)).tr (FT0_nu _)).w.tr (FT1_ly _ _ _ _ _)
  · exact ((F3.tr (FT0_8 _ _)).tr (FT0_tk _ _ _)).w.tr (FT1_ly _ _ _ _ _)
  · exact F3.w.tr (FT1_ly _ _ _ _ _)
theorem FT1_ro (σ : ST) : FT1 σ (roS σ) := by
  have F : FT0 σ (hdS σ) := (FT0_9 _ _).tr (FT0_8 _ _)
  have F1 := F.tr (FT0_tk _ 97 104)
  unfold roS
  (repeat' split)
  · exact F.w
  · exact F.w.tr (FT1_ra _)
  · exact ((F1.tr (FT0_tk _ _ _)).tr (FT0_nu _)).w.tr (FT1_ly _ _ _ _ _)
  · exact (F1.tr (FT0_tk _ _ _)).w.tr (FT1_ly _ _ _ _ _)
  · exact F.w.tr (FT1_ly _ _ _ _ _)
  · exact (F.tr (FT0_rg _)).w.tr (FT1_ly _ _ _ _ _)
theorem BJ_of {c σ : ST} (h : TX c σ) (h8 : 0 ≤ σ 110 8 ∧ σ 110 8 ≤ c 108 1) (h9 : σ 110 9 = 0 ∨ σ 110 9 = 1) : BJ σ := by
  obtain ⟨h1, h2, h3, h4⟩ := h
  have hl := h1.1
  exact ⟨by omega, by omega, h9, h4⟩
theorem RS1.bj {c σ : ST} (h : RS1 c σ) : BJ σ := by
  obtain ⟨hT, h⟩ := h
  rcases h with ⟨h9, m, F, E, hs, -, h8, -⟩ | ⟨h9, hN⟩
  · have := (hs.2.1 m (by omega)).2.2.2.2
    exact BJ_of hT (by omega) (Or.inr h9)
  · exact BJ_of hT hN.1 (Or.inl h9)
/-- from a read order -/
theorem RS1_of {c σ μ : ST} {N : Nat} {F E : Nat → Int} {f : Int} (hR : RO c f (N : Int) σ μ) (h0 : N = 0 → f = 0) (hs : N ≠ 0 → SGF c σ N F E ∧ cdF c (E (N - 1)) = 59 ∧ f = E (N - 1) + 1) : RS1 c μ := by
  obtain ⟨hT, hR⟩ := hR
  refine ⟨hT, ?_⟩
  rcases hR with ⟨h9, e, s, hw, hm, hx, hfe, h11, ho, hp⟩ | hR
  · refine Or.inl ⟨h9, N, fun i => if i = N then f else F i, fun i => if i = N then e else E i, ⟨?_, fun i hi => ?_, fun i hi => ?_⟩, h11, ?_, ?_⟩
    · show (if 0 = N then f else F 0) = 0
      by_cases z : N = 0
      · rw [if_pos z.symm, h0 z]
      · rw [if_neg (fun q : 0 = N => z q.symm)]; exact (hs z).1.1
    · by_cases z : i = N
      · subst z
        simp only [if_pos]
        obtain ⟨w8, wp, wd, ws, wi, wn⟩ := hw
        refine ⟨?_, by rw [wd]; exact wi, by rw [wd]; exact hm, wn, by omega⟩
        rw [show (4 * (i : Int)).toNat = 4 * i by omega, show (4 * (i : Int) + 1).toNat = 4 * i + 1 by omega, show (4 * (i : Int) + 2).toNat = 4 * i + 2 by omega, show (4 * (i : Int) + 3).toNat = 4 * i + 3 by omega] at ho
        exact ho
      · simp only [if_neg z]
        have o := (hs (by omega)).1.2.1 i (by omega)
        unfold OD at o ⊢
        rw [hp _ (by omega), hp _ (by omega), hp _ (by omega), hp _ (by omega)]
        exact o
    · have zi : ¬ i = N := by omega
      simp only [if_neg zi]
      by_cases z : i + 1 = N
      · have hq := hs (by omega)
        rw [show N - 1 = i by omega] at hq
        rw [if_pos z]
        exact hq.2
      · rw [if_neg z]
        exact (hs (by omega)).1.2.2 i (by omega)
    · show μ 110 8 = if N = N then e else E N
      rw [if_pos rfl]; exact hw.1
    · show (if N = N then e else E N) < c 108 1 → cdF c (if N = N then e else E N) ≠ 59 → nxF (dfR (c 109) (if N = N then e else E N).toNat) (cdF c (if N = N then e else E N)) = -1
      rw [if_pos rfl, hw.2.2.1]; exact hx
  · exact Or.inr hR
/-- the sign between two orders -/
theorem RS1_59 {c σ : ST} (h : RS1 c σ) (h9 : σ 110 9 = 1) (hl : σ 110 8 < σ 110 5) : (tkS σ 59 59 110 9 = 0 → RS1 c (tkS σ 59 59)) ∧ (tkS σ 59 59 110 9 = 1 → ∃ (N : Nat) (f : Int), tkS σ 59 59 110 11 = (N : Int) ∧ N < 64 ∧ TX c (tkS σ 59 59) ∧ WE c f f 0 (tkS σ 59 59) ∧ ∀ μ, RO c f (N : Int) (tkS σ 59 59) μ → RS1 c μ) ∧ (tkS σ 59 59 110 9 = 1 → tkS σ 59 59 110 8 = σ 110 8 + 1) := by
  obtain ⟨hT, h⟩ := h
  have hT' := hT.fr (FT0_tk σ 59 59)
  rcases h with ⟨-, m, F, E, hs, h11, h8, hx⟩ | ⟨h, -⟩
  · have hE := hs.2.1 m (by omega)
    have hb := hE.2.2.2.2
    have hsg := sg_at hT (by omega)
    have hl2 := hT.2.1
    have hlen := hT.1.1
    rw [h8, if_pos (by omega)] at hsg
    have hm := hs.le m (by omega)
    have hdr := dfR_rng (c 109) (E m).toNat
    refine ⟨fun z => ⟨hT', Or.inr ⟨z, ?_⟩⟩, fun z => ?_, fun z => ?_⟩
    · have h59 : cdF c (E m) ≠ 59 := fun q => by
        have t := tk_1 (σ := σ) (a := 59) (b := 59) ⟨h9, by omega, by omega⟩
        omega
      have t := tk_0 (σ := σ) (a := 59) (b := 59) (by omega)
      have hme := hE.2.2.1
      unfold meP at hme
      unfold NW
      rw [t.2, h8]
      exact ⟨by omega, by omega, Or.inr ⟨by omega, hx (by omega) h59⟩⟩
    · have h59 : cdF c (E m) = 59 := by
        by_cases q : σ 110 9 = 1 ∧ 59 ≤ sgM σ ∧ sgM σ ≤ 59
        · omega
        · have t := tk_0 q; omega
      have t := tk_1 (σ := σ) (a := 59) (b := 59) ⟨h9, by omega, by omega⟩
      refine ⟨m + 1, E m + 1, ?_, by omega, hT', ⟨by omega, by omega, ?_, by omega, rfl, fun k k0 k1 => by omega⟩, fun μ hR => ?_⟩
      · rw [(FT0_tk σ 59 59).2 11 (by omega) (by omega), h11]; omega
      · rw [df_s (by omega) (by omega), h59]
        have hme := hE.2.2.1
        unfold meP at hme
        unfold nxF
        rw [if_pos rfl, if_pos hme]
      · have e5 := (FT0_tk σ 59 59).1 115 (by omega)
        refine RS1_of (F := F) (E := E) (N := m + 1) hR (fun q => by omega) (fun _ => ⟨⟨hs.1, fun i hi => ?_, hs.2.2⟩, h59, rfl⟩)
        have o := hs.2.1 i hi
        unfold OD at o ⊢
        rw [e5]
        exact o
    · by_cases q : σ 110 9 = 1 ∧ 59 ≤ sgM σ ∧ sgM σ ≤ 59
      · exact (tk_1 q).2
      · have t := tk_0 q; omega
  · omega
/-- where the first error is -/
theorem ep_at {c : ST} (hT : TI c) {p : Int} (p0 : 0 ≤ p) (p1 : p ≤ c 108 1) (hd : 0 ≤ dfR (c 109) p.toNat) (hx : p < c 108 1 → nxF (dfR (c 109) p.toNat) (cdF c p) = -1) : epF c = p := by
  have hl := hT.1
  have hn : ∀ j, j < p.toNat → dfR (c 109) (j + 1) ≠ -1 := fun j hj q => by
    have := dfR_abs (c 109) (j + 1) q (p.toNat - (j + 1))
    rw [show j + 1 + (p.toNat - (j + 1)) = p.toNat by omega] at this
    omega
  unfold epF
  rcases Int.lt_or_le p (c 108 1) with g | g
  · have hp : dfR (c 109) (p.toNat + 1) = -1 := by
      have := df_s p0 g
      rw [show (p + 1).toNat = p.toNat + 1 by omega] at this
      rw [this]; exact hx g
    have e := fnd_at (f := fun k => dfR (c 109) (k + 1)) (a := -1) (k := p.toNat) hp hn (n := (c 108 1).toNat) (by omega)
    rw [e, if_neg (by omega)]
    omega
  · have e := fnd_no (f := fun k => dfR (c 109) (k + 1)) (a := -1) (n := (c 108 1).toNat) (fun j hj => hn j (by omega))
    rw [if_pos e]
    omega
theorem NW_ep {c σ : ST} (hT : TI c) (h : NW c σ) : epF c = σ 110 8 := by
  obtain ⟨h1, h2, h3⟩ := h
  refine ep_at hT h1.1 h1.2 h2 (fun g => ?_)
  rcases h3 with h3 | h3
  · omega
  · exact h3.2
theorem NW_cm {c σ : ST} (h : NW c σ) : ¬ cmT c := by
  obtain ⟨h1, h2, h3⟩ := h
  intro q
  rcases h3 with ⟨g1, g2⟩ | ⟨g1, g2⟩
  · rw [g1] at g2; exact g2 q
  · have e := df_s h1.1 g1
    rw [g2] at e
    have := dfR_abs (c 109) _ e ((c 108 1).toNat - (σ 110 8 + 1).toNat)
    rw [show (σ 110 8 + 1).toNat + ((c 108 1).toNat - (σ 110 8 + 1).toNat) = (c 108 1).toNat by omega] at this
    unfold cmT at q
    omega
def RA (c σ : ST) : Prop := (σ 110 9 = 1 ∧ ∃ (N : Nat) (F E : Nat → Int), SGF c σ (N + 1) F E ∧ σ 110 11 = (N : Int) + 1 ∧ E N = c 108 1 ∧ σ 110 8 = c 108 1) ∨ (σ 110 9 = 0 ∧ NW c σ)
theorem RO.gt {c : ST} {f m : Int} {σ0 μ : ST} (h : RO c f m σ0 μ) (h9 : μ 110 9 = 1) : f < μ 110 8 := by
  rcases h.2 with ⟨-, e, s, hw, -, -, hfe, -⟩ | ⟨g, -⟩
  · have := hw.1; omega
  · omega
theorem RS1.le {c σ : ST} (h : RS1 c σ) : 0 ≤ σ 110 8 ∧ σ 110 8 ≤ c 108 1 ∧ (σ 110 9 = 0 ∨ σ 110 9 = 1) := by
  rcases h.2 with ⟨h9, m, F, E, hs, -, h8, -⟩ | ⟨h9, hN⟩
  · have := (hs.2.1 m (by omega)).2.2.2.2; omega
  · exact ⟨hN.1.1, hN.1.2, Or.inl h9⟩
theorem RS1.ra {c σ : ST} (h : RS1 c σ) (he : σ 110 9 = 0 ∨ c 108 1 ≤ σ 110 8) : RA c σ := by
  rcases h.2 with ⟨h9, m, F, E, hs, h11, h8, -⟩ | h2
  · have := (hs.2.1 m (by omega)).2.2.2.2
    exact Or.inl ⟨h9, m, F, E, hs, h11, by omega, by omega⟩
  · exact Or.inr h2
theorem RA.ep {c σ : ST} (hT : TI c) (h : RA c σ) : epF c = σ 110 8 := by
  rcases h with ⟨h9, N, F, E, hs, h11, hE, h8⟩ | ⟨h9, hN⟩
  · have o := hs.2.1 N (by omega)
    rw [hE] at o
    have hm := o.2.2.1
    unfold meP at hm
    rw [h8]
    have hl := hT.1
    exact ep_at hT (by omega) (by omega) (by omega) (fun g => by omega)
  · exact NW_ep hT hN
theorem RA.cm {c σ : ST} (h : RA c σ) : σ 110 9 = 1 ↔ cmT c := by
  rcases h with ⟨h9, N, F, E, hs, h11, hE, h8⟩ | ⟨h9, hN⟩
  · have o := hs.2.1 N (by omega)
    rw [hE] at o
    exact ⟨fun _ => o.2.2.1, fun _ => h9⟩
  · exact ⟨fun z => by omega, fun z => absurd z (NW_cm hN)⟩
/-- a class's order is carried out, the model's likewise -/
theorem plc_in {c : ST} (h : CI c) {s : Nat} {a : Int} (hp : plc c s a ≠ -1) : 0 ≤ a ∧ a < 8 := by
  have e := fnd_hit (f := fun k => c 9 (8 * s + k)) (a := a) (n := (c 7 s).toNat) hp
  have l := h.le (8 * s + (plc c s a).toNat)
  have e2 : c 9 (8 * s + (plc c s a).toNat) = a := e
  omega
theorem OD.ok {c σ : ST} {i : Nat} {f e : Int} (hT : TI c) (h : OD c σ i f e) : okP c f e := by
  have hl := hT.1
  have hm := h.2.2.1
  unfold meP at hm
  exact IV_ok h.2.1 hm h.2.2.2.2.1 (by have := h.2.2.2.2; omega)

set_option maxRecDepth 100000 in
set_option maxHeartbeats 4000000 in
theorem ct_X6_readsAll {l : Launch} {G : GG} {π : Nat → Option Nat} {σ τ : ST} (c : ST) (hT : TX c σ)  : Ct l G mX6_readsAll (5, 0, 0) [.ref 110] 117 KD σ τ (RHO π) (KG none (fun σ' => FT1 σ σ' ∧ RA c σ') τ π) := by
  have hl := hT.1.1
  obtain ⟨Z, hZ⟩ : ∃ Z, Z = up2 (up2 (up2 σ 110 8 0) 110 9 1) 110 11 0 := ⟨_, rfl⟩
  have z8 : Z 110 8 = 0 := by rw [hZ, up2_no _ (by omega), up2_no _ (by omega), up2_at]
  have z9 : Z 110 9 = 1 := by rw [hZ, up2_no _ (by omega), up2_at]
  have z11 : Z 110 11 = 0 := by rw [hZ, up2_at]
  have zF : FT1 σ Z := ⟨fun q q0 q5 => by rw [hZ, up2_off _ q0, up2_off _ q0, up2_off _ q0], fun k h8 h9 h11 => by rw [hZ, up2_el _ _ _ h11, up2_el _ _ _ h9, up2_el _ _ _ h8]⟩
  have zT : TX c Z := by
    obtain ⟨t1, t2, t3, t4⟩ := hT
    unfold TX
    rw [zF.2 5 (by omega) (by omega) (by omega), zF.1 113 (by omega) (by omega)]
    exact ⟨t1, t2, t3, t4⟩
  have zB : BJ Z := BJ_of zT (by omega) (Or.inr z9)
  have zW : WE c 0 0 0 Z := ⟨z8, by omega, rfl, by omega, rfl, fun k k0 k1 => by omega⟩
  have zR : RO c 0 ((0 : Nat) : Int) Z (roS Z) := ro_RO zT z9 zW z11 (by omega)
  have zS : RS1 c (roS Z) := RS1_of (F := fun _ => 0) (E := fun _ => 0) zR (fun _ => rfl) (fun q => absurd rfl q)
  have zF2 : FT1 σ (roS Z) := zF.tr (FT1_ro Z)
  refine ct_intro (own := "ShapedRowsModel") rfl (by decide +kernel) (Nat.le_of_ble_eq_true rfl) (L := _) rfl ?_
  have cut_19 : ∀ (N : Nat) (μ : ST) (n : Int), (FT1 σ μ) → (RS1 c μ) → ((n = 0 ∧ μ 110 9 = 0) ∨ (μ 110 9 = 1 ∧ n = c 108 1 - μ 110 8 + 1)) → (0 ≤ n) → n < (N : Int) → WP l G "ShapedRowsModel" mX6_readsAll (5, 0, 0) (KG none (fun σ' => FT1 σ σ' ∧ RA c σ') τ π) noX 117 19 [some (.ref 110)] [] 117 KD μ τ (RHO π) 0 0 := by
    intro N
    induction N with
    | zero => intro μ n hF hR hn hn0 hm; exact absurd hm (by omega)
    | succ N ih =>
      intro μ n hF hR hn hn0 hm
      have hB := hR.bj
      have hle := hR.le
      have h5 : μ 110 5 = c 108 1 := hR.1.2.1
      have hb0 := hB.1
      have hF2 : FT1 σ (tkS μ 59 59) := hF.tr (FT0_tk μ 59 59).w
      have hB2 := BJ_tk hB (a := 59) (by omega) 59
      have hb9 := hB2.2.2.1
      refine r_aload_n dX6_readsAll_19 rfl (by rfl) ?_
      refine r_get_i kX6_157 dX6_readsAll_20 KD_110 ?_
      refine r_if_eq (tgt := 60) dX6_readsAll_23 (by decide) (by unfold inR; omega) (fun hw1 => ?_) (fun hw1 => ?_)
      · exact r_ret_vg dX6_readsAll_60 rfl ⟨Nat.zero_le _, Nat.zero_le _⟩ (by exact ⟨hF, hR.ra (by omega)⟩) (by rfl)
      · refine r_aload_n dX6_readsAll_26 rfl (by rfl) ?_
        refine r_get_i kX6_154 dX6_readsAll_27 KD_110 ?_
        refine r_aload_n dX6_readsAll_30 rfl (by rfl) ?_
        refine r_get_i kX6_151 dX6_readsAll_31 KD_110 ?_
        rw [h5]
        refine r_icmp_ge (tgt := 60) dX6_readsAll_34 (by decide) (by unfold inR; omega) (by unfold inR; omega) (fun hat => ?_) (fun hat => ?_)
        · exact r_ret_vg dX6_readsAll_60 rfl ⟨Nat.zero_le _, Nat.zero_le _⟩ (by exact ⟨hF, hR.ra (by omega)⟩) (by rfl)
        · have hs59 := fun (_ : True) => RS1_59 hR (by omega) (by omega)
          refine r_aload_n dX6_readsAll_37 rfl (by rfl) ?_
          refine r_bipush dX6_readsAll_38 (by decide) ?_
          refine r_bipush dX6_readsAll_40 (by decide) ?_
          refine r_callV2 (ct_X6_takes (by first | exact zB | exact hB | exact hB2 | omega | (unfold inR; omega)) _ (by first | exact zB | exact hB | exact hB2 | omega | (unfold inR; omega)) _ (by first | exact zB | exact hB | exact hB2 | omega | (unfold inR; omega))) fX6_takes qX6_164 dX6_readsAll_42 KD_110 (by decide) ⟨Nat.zero_le _, Nat.zero_le _⟩ (Nat.le_of_ble_eq_true rfl) ?_
          refine r_pop dX6_readsAll_45 rfl ?_
          refine r_aload_n dX6_readsAll_46 rfl (by rfl) ?_
          refine r_get_i kX6_157 dX6_readsAll_47 KD_110 ?_
          refine r_if_eq (tgt := 19) dX6_readsAll_50 (by decide) (by unfold inR; omega) (fun hw2 => ?_) (fun hw2 => ?_)
          · first | exact ih _ 0 hF2 ((hs59 trivial).1 hw2) (Or.inl ⟨rfl, hw2⟩) (by omega) (by omega) | exact hle3.2.2.elim (fun w => ih _ 0 hF3 hR3 (Or.inl ⟨rfl, w⟩) (by omega) (by omega)) (fun w => ih _ _ hF3 hR3 (Or.inr ⟨w, rfl⟩) (by omega) (by have := hgt3 w; omega))
          · obtain ⟨M, f, q1, q2, q3, q4, q5⟩ := (hs59 trivial).2.1 (by omega)
            have q6 := (hs59 trivial).2.2 (by omega)
            refine r_aload_n dX6_readsAll_53 rfl (by rfl) ?_
            refine r_callV0 (ct_X6_readsOrder (by first | exact zB | exact hB | exact hB2 | omega | (unfold inR; omega)) (by first | exact zB | exact hB | exact hB2 | omega | (unfold inR; omega)) (by first | exact zB | exact hB | exact hB2 | omega | (unfold inR; omega))) fX6_readsOrder qX6_183 dX6_readsAll_54 KD_110 (by decide) ⟨Nat.zero_le _, Nat.zero_le _⟩ (Nat.le_of_ble_eq_true rfl) ?_
            have hRO := ro_RO q3 (by omega) q4 q1 (by omega)
            have hR3 := q5 _ hRO
            have hF3 := hF2.tr (FT1_ro (tkS μ 59 59))
            have hle3 := hR3.le
            have hgt3 := hRO.gt
            have q8 := q4.1
            refine r_goto (tgt := 19) dX6_readsAll_57 (by decide) ?_
            first | exact ih _ 0 hF2 ((hs59 trivial).1 hw2) (Or.inl ⟨rfl, hw2⟩) (by omega) (by omega) | exact hle3.2.2.elim (fun w => ih _ 0 hF3 hR3 (Or.inl ⟨rfl, w⟩) (by omega) (by omega)) (fun w => ih _ _ hF3 hR3 (Or.inr ⟨w, rfl⟩) (by omega) (by have := hgt3 w; omega))
  refine r_aload_n dX6_readsAll_0 rfl (by rfl) ?_
  refine r_iconst dX6_readsAll_1 ?_
  refine r_put_i kX6_154 dX6_readsAll_2 KD_110 ?_
  refine r_aload_n dX6_readsAll_5 rfl (by rfl) ?_
  refine r_iconst dX6_readsAll_6 ?_
  refine r_put_z (by first | exact Or.inl rfl | exact Or.inr rfl | (split <;> omega)) kX6_157 dX6_readsAll_7 KD_110 ?_
  refine r_aload_n dX6_readsAll_10 rfl (by rfl) ?_
  refine r_iconst dX6_readsAll_11 ?_
  refine r_put_i kX6_167 dX6_readsAll_12 KD_110 ?_
  refine r_aload_n dX6_readsAll_15 rfl (by rfl) ?_
  refine WP.mem hZ.symm ?_
  refine r_callV0 (ct_X6_readsOrder (by first | exact zB | exact hB | exact hB2 | omega | (unfold inR; omega)) (by first | exact zB | exact hB | exact hB2 | omega | (unfold inR; omega)) (by first | exact zB | exact hB | exact hB2 | omega | (unfold inR; omega))) fX6_readsOrder qX6_183 dX6_readsAll_16 KD_110 (by decide) ⟨Nat.zero_le _, Nat.zero_le _⟩ (Nat.le_of_ble_eq_true rfl) ?_
  have hle := zS.le
  have hgt := zR.gt
  rcases hle.2.2 with w | w
  · exact cut_19 100 _ 0 zF2 zS (Or.inl ⟨rfl, w⟩) (by omega) (by omega)
  · exact cut_19 100 _ _ zF2 zS (Or.inr ⟨w, rfl⟩) (by omega) (by omega)

def TF (σ σ' : ST) : Prop := (∀ q, q ≠ 110 → q ≠ 115 → σ' q = σ q) ∧ σ' 110 0 = 0 ∧ ∀ k, k ≠ 0 → k ≠ 8 → k ≠ 9 → k ≠ 11 → σ' 110 k = σ 110 k
theorem TX_z {c σ : ST} (h : TX c σ) (v : Int) : TX c (up2 σ 110 0 v) := by
  obtain ⟨t1, t2, t3, t4⟩ := h
  unfold TX
  rw [up2_no _ (show ¬ ((110 : Nat) = 110 ∧ 5 = 0) by omega), up2_off _ (by omega)]
  exact ⟨t1, t2, t3, t4⟩

set_option maxRecDepth 100000 in
set_option maxHeartbeats 4000000 in
theorem ct_X6_firstErrorR {l : Launch} {G : GG} {π : Nat → Option Nat} {σ τ : ST} (c : ST) (hT : TX c σ)  : Ct l G mX6_firstError (6, 0, 0) [.ref 110] 117 KD σ τ (RHO π) (KG (some (.int (iI (epF c)))) (TF σ) τ π) := by
  have T1 := TX_z hT 0
  refine ct_intro (own := "ShapedRowsModel") rfl (by decide +kernel) (Nat.le_of_ble_eq_true rfl) (L := _) rfl ?_
  refine r_aload_n dX6_firstError_0 rfl (by rfl) ?_
  refine r_iconst dX6_firstError_1 ?_
  refine r_put_i kX6_25 dX6_firstError_2 KD_110 ?_
  refine r_aload_n dX6_firstError_5 rfl (by rfl) ?_
  refine r_callG0 (ct_X6_readsAll _ (by first | exact T1 | omega)) fX6_readsAll qX6_186 dX6_firstError_6 KD_110 (by decide) ⟨Nat.zero_le _, Nat.zero_le _⟩ (Nat.le_of_ble_eq_true rfl) (fun μ1 hμ1 => ?_)
  have hep := hμ1.2.ep hT.1
  have hTF : TF σ μ1 := ⟨fun q q0 q5 => by rw [hμ1.1.1 q q0 q5, up2_off _ q0], by rw [hμ1.1.2 0 (by omega) (by omega) (by omega), up2_at], fun k k0 k8 k9 k11 => by rw [hμ1.1.2 k k8 k9 k11, up2_el _ _ _ k0]⟩
  refine r_aload_n dX6_firstError_9 rfl (by rfl) ?_
  refine r_get_i kX6_154 dX6_firstError_10 KD_110 ?_
  exact r_ret_ig dX6_firstError_13 rfl ⟨Nat.zero_le _, Nat.zero_le _⟩ (by exact hep.symm) (by exact hTF)
