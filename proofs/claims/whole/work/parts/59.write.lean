/-! the model: rows rewritten, written, removed; going on -/
def rzV (c : ST) (r s : Int) (k : Nat) : Int := if (k : Int) < c 7 s.toNat then vR c r.toNat s.toNat (c 8 (8 * s.toNat + k)).toNat else 0
theorem rz_sc (σ : ST) {r s : Int} (r0 : 0 ≤ r) (f : Nat → Int) (q : Int × (Nat → Int)) : up2 (loM (loM (scM (cpR σ 111 (250 + 10 * r + 2).toNat 8 f) q) r 0 s) r 1 (oM (loM (scM (cpR σ 111 (250 + 10 * r + 2).toNat 8 f) q) r 0 s) r 1 + 1)) 111 4 (loM (loM (scM (cpR σ 111 (250 + 10 * r + 2).toNat 8 f) q) r 0 s) r 1 (oM (loM (scM (cpR σ 111 (250 + 10 * r + 2).toNat 8 f) q) r 0 s) r 1 + 1) 111 4 + 1) = scM (rzM σ r s f) q := by
  have e1 : oM (loM (scM (cpR σ 111 (250 + 10 * r + 2).toNat 8 f) q) r 0 s) r 1 = oM σ r 1 := by
    rw [lo_g _ (by omega) (by omega) (by omega), sc_ro]
    unfold oM
    rw [cpR_no _ (by omega)]
  have e2 : ∀ x : Int, loM (loM (scM (cpR σ 111 (250 + 10 * r + 2).toNat 8 f) q) r 0 s) r 1 x 111 4 = σ 111 4 := fun x => by
    rw [lo_o _ (by omega), lo_o _ (by omega), sc_111, cpR_no _ (by omega)]
  rw [e1, e2]
  unfold rzM loM
  rw [sc_up ⟨Or.inl (by omega), by omega⟩, sc_up ⟨Or.inl (by omega), by omega⟩, sc_up ⟨Or.inl (by omega), by omega⟩]
theorem rz_st (σ : ST) {r k : Int} (r0 : 0 ≤ r) (k0 : 0 ≤ k) (f : Nat → Int) (q : Int × (Nat → Int)) : loM (scM (cpR σ 111 (250 + 10 * r + 2).toNat k.toNat f) q) r (2 + k) (f k.toNat) = scM (cpR σ 111 (250 + 10 * r + 2).toNat (k + 1).toNat f) q := by
  unfold loM
  rw [sc_up ⟨Or.inl (by omega), by omega⟩, show (250 + 10 * r + (2 + k)).toNat = (250 + 10 * r + 2).toNat + k.toNat by omega, cpR_up, show (k + 1).toNat = k.toNat + 1 by omega]
theorem Rel_rz {c σ : ST} (h : Rel c σ) {r s : Int} (r0 : 0 ≤ r) (r1 : r < c 10 0) (s0 : 0 ≤ s) (s1 : s < c 2 0) : Rel (rwV c r s (vR c r.toNat s.toNat)) (rzM σ r s (rzV c r s)) := Rel_rw h r0 r1 s0 s1 (vR_bd h.ci _ _) (fun k hk => by unfold rzV; rw [if_pos hk])

set_option maxRecDepth 100000 in
set_option maxHeartbeats 4000000 in
theorem ct_X6_rewritesR {l : Launch} {G : GG} {π : Nat → Option Nat} {σ τ : ST} (c : ST) (hR : Rel c σ) (r s : Int) (r0 : 0 ≤ r) (r1 : r < c 10 0) (s0 : 0 ≤ s) (s1 : s < c 2 0)  : Ct l G mX6_rewrites (4, 0, 0) [.ref 110, .int (iI r), .int (iI s)] 117 KD σ τ (RHO π) (KG none (fun σ' => ∃ q, True ∧ σ' = scM (rzM σ r s (rzV c r s)) q) τ π) := by
  have hn := hR.nm
  have hsz := hR.ci.sz
  have hrw := hR.ci.ro
  have hcu := hR.ci.cu
  have hmk := hR.ci.mk
  have hw := hR.ci.wd s.toNat
  refine ct_intro (own := "ShapedRowsModel") rfl (by decide +kernel) (Nat.le_of_ble_eq_true rfl) (L := _) rfl ?_
  have cut_8 : ∀ (N : Nat) (q : Int × (Nat → Int)) (k : Int), (PV c s (vR c r.toNat s.toNat) q) → (0 ≤ k) → (k ≤ 8) → 8 - k < (N : Int) → WP l G "ShapedRowsModel" mX6_rewrites (4, 0, 0) (KG none (fun σ' => ∃ q, True ∧ σ' = scM (rzM σ r s (rzV c r s)) q) τ π) noX 117 8 [some (.ref 110), some (.int (iI r)), some (.int (iI s)), some (.int (iI k))] [] 117 KD (scM (cpR σ 111 (250 + 10 * r + 2).toNat k.toNat (rzV c r s)) q) τ (RHO π) 0 0 := by
    intro N
    induction N with
    | zero => intro q k hq k0 k1 hm; exact absurd hm (by omega)
    | succ N ih =>
      intro q k hq k0 k1 hm
      have q7 := sc_7 (cpR σ 111 (250 + 10 * r + 2).toNat k.toNat (rzV c r s)) q
      have q14 := sc_114 (cpR σ 111 (250 + 10 * r + 2).toNat k.toNat (rzV c r s)) q
      have qk : k < c 7 s.toNat → q.2 k.toNat = vR c r.toNat s.toNat (c 8 (8 * s.toNat + k.toNat)).toNat := fun hh => hq.2 k.toNat (by omega)
      refine r_iload_n dX6_rewrites_8 rfl (by rfl) ?_
      refine r_bipush dX6_rewrites_9 (by decide) ?_
      refine r_icmp_ge (tgt := 46) dX6_rewrites_11 (by decide) (by unfold inR; omega) (by unfold inR; omega) (fun c_1 => ?_) (fun c_1 => ?_)
      · refine WP.mem (σ' := scM (cpR σ 111 (250 + 10 * r + 2).toNat 8 (rzV c r s)) q) (by rw [show k.toNat = 8 by omega]) ?_
        refine r_aload_n dX6_rewrites_46 rfl (by rfl) ?_
        refine r_iload_n dX6_rewrites_47 rfl (by rfl) ?_
        refine r_iconst dX6_rewrites_48 ?_
        refine r_iload_n dX6_rewrites_49 rfl (by rfl) ?_
        refine r_callV3 (ct_X6_layRow _ _ (by first | exact hR | exact Rel_cg (sc_111 _ _) hR | exact hR.mj | exact MJ_cg (sc_111 _ _) hR.mj | omega | (rw [sc_111]; omega) | (unfold inR; omega)) (by first | exact hR | exact Rel_cg (sc_111 _ _) hR | exact hR.mj | exact MJ_cg (sc_111 _ _) hR.mj | omega | (rw [sc_111]; omega) | (unfold inR; omega)) _) fX6_layRow qX6_117 dX6_rewrites_50 KD_110 (by decide) ⟨Nat.zero_le _, Nat.zero_le _⟩ (Nat.le_of_ble_eq_true rfl) ?_
        refine r_aload_n dX6_rewrites_53 rfl (by rfl) ?_
        refine r_iload_n dX6_rewrites_54 rfl (by rfl) ?_
        refine r_iconst dX6_rewrites_55 ?_
        refine r_aload_n dX6_rewrites_56 rfl (by rfl) ?_
        refine r_iload_n dX6_rewrites_57 rfl (by rfl) ?_
        refine r_iconst dX6_rewrites_58 ?_
        refine r_callV2 (ct_X6_rowOf _ _ (by first | exact hR | exact Rel_cg (sc_111 _ _) hR | exact hR.mj | exact MJ_cg (sc_111 _ _) hR.mj | omega | (rw [sc_111]; omega) | (unfold inR; omega)) (by first | exact hR | exact Rel_cg (sc_111 _ _) hR | exact hR.mj | exact MJ_cg (sc_111 _ _) hR.mj | omega | (rw [sc_111]; omega) | (unfold inR; omega))) fX6_rowOf qX6_108 dX6_rewrites_59 KD_110 (by decide) ⟨Nat.zero_le _, Nat.zero_le _⟩ (Nat.le_of_ble_eq_true rfl) ?_
        refine r_iconst dX6_rewrites_62 ?_
        refine r_iadd dX6_rewrites_63 ?_
        refine r_callV3 (ct_X6_layRow _ _ (by first | exact hR | exact Rel_cg (sc_111 _ _) hR | exact hR.mj | exact MJ_cg (sc_111 _ _) hR.mj | omega | (rw [sc_111]; omega) | (unfold inR; omega)) (by first | exact hR | exact Rel_cg (sc_111 _ _) hR | exact hR.mj | exact MJ_cg (sc_111 _ _) hR.mj | omega | (rw [sc_111]; omega) | (unfold inR; omega)) _) fX6_layRow qX6_117 dX6_rewrites_64 KD_110 (by decide) ⟨Nat.zero_le _, Nat.zero_le _⟩ (Nat.le_of_ble_eq_true rfl) ?_
        refine r_aload_n dX6_rewrites_67 rfl (by rfl) ?_
        refine r_get_r kX6_7 dX6_rewrites_68 KD_110 (RHO_110_1 _) ?_
        refine r_iconst dX6_rewrites_71 ?_
        refine r_dup2 dX6_rewrites_72 rfl rfl ?_
        refine r_iaload (k := 4) dX6_rewrites_73 KD_111 (by omega) (by omega) (by decide) ?_
        refine r_iconst dX6_rewrites_74 ?_
        refine r_iadd dX6_rewrites_75 ?_
        refine r_iastore (k := 4) dX6_rewrites_76 KD_111 (by omega) (by omega) (by decide) ?_
        exact r_ret_vg dX6_rewrites_77 rfl ⟨Nat.zero_le _, Nat.zero_le _⟩ (by exact ⟨q, trivial, rz_sc σ r0 _ q⟩) (by rfl)
      · refine r_aload_n dX6_rewrites_14 rfl (by rfl) ?_
        refine r_iload_n dX6_rewrites_15 rfl (by rfl) ?_
        refine r_iconst dX6_rewrites_16 ?_
        refine r_iload_n dX6_rewrites_17 rfl (by rfl) ?_
        refine r_iadd dX6_rewrites_18 ?_
        refine r_iload_n dX6_rewrites_19 rfl (by rfl) ?_
        refine r_aload_n dX6_rewrites_20 rfl (by rfl) ?_
        refine r_get_i kX6_98 dX6_rewrites_21 KD_110 ?_
        rw [q7, hq.1]
        refine r_icmp_ge (tgt := 36) dX6_rewrites_24 (by decide) (by unfold inR; omega) (by unfold inR; omega) (fun c_2 => ?_) (fun c_2 => ?_)
        · refine r_iconst dX6_rewrites_36 ?_
          refine WP.top (b := rzV c r s k.toNat) (by unfold rzV; first | (rw [if_pos (by omega)]; done) | (rw [if_neg (by omega)]; done)) ?_
          refine r_callV3 (ct_X6_layRow _ _ (by first | exact hR | exact Rel_cg (sc_111 _ _) hR | exact hR.mj | exact MJ_cg (sc_111 _ _) hR.mj | omega | (rw [sc_111]; omega) | (unfold inR; omega)) (by first | exact hR | exact Rel_cg (sc_111 _ _) hR | exact hR.mj | exact MJ_cg (sc_111 _ _) hR.mj | omega | (rw [sc_111]; omega) | (unfold inR; omega)) _) fX6_layRow qX6_117 dX6_rewrites_37 KD_110 (by decide) ⟨Nat.zero_le _, Nat.zero_le _⟩ (Nat.le_of_ble_eq_true rfl) ?_
          refine r_iinc dX6_rewrites_40 (by rfl) (Nat.le_of_ble_eq_true rfl) (L' := [_, _, _, _]) (by rfl) ?_
          refine r_goto (tgt := 8) dX6_rewrites_43 (by decide) ?_
          refine WP.mem (rz_st σ r0 k0 (rzV c r s) q) ?_
          exact ih q (k + 1) hq (by omega) (by omega) (by omega)
        · refine r_aload_n dX6_rewrites_27 rfl (by rfl) ?_
          refine r_get_r kX6_19 dX6_rewrites_28 KD_110 (RHO_110_6 _) ?_
          refine r_iload_n dX6_rewrites_31 rfl (by rfl) ?_
          refine r_iald dX6_rewrites_32 KD_114 (by omega) (by omega) (by first | decide | omega) ?_
          rw [q14, qk (by omega)]
          refine r_goto (tgt := 37) dX6_rewrites_33 (by decide) ?_
          refine WP.top (b := rzV c r s k.toNat) (by unfold rzV; first | (rw [if_pos (by omega)]; done) | (rw [if_neg (by omega)]; done)) ?_
          refine r_callV3 (ct_X6_layRow _ _ (by first | exact hR | exact Rel_cg (sc_111 _ _) hR | exact hR.mj | exact MJ_cg (sc_111 _ _) hR.mj | omega | (rw [sc_111]; omega) | (unfold inR; omega)) (by first | exact hR | exact Rel_cg (sc_111 _ _) hR | exact hR.mj | exact MJ_cg (sc_111 _ _) hR.mj | omega | (rw [sc_111]; omega) | (unfold inR; omega)) _) fX6_layRow qX6_117 dX6_rewrites_37 KD_110 (by decide) ⟨Nat.zero_le _, Nat.zero_le _⟩ (Nat.le_of_ble_eq_true rfl) ?_
          refine r_iinc dX6_rewrites_40 (by rfl) (Nat.le_of_ble_eq_true rfl) (L' := [_, _, _, _]) (by rfl) ?_
          refine r_goto (tgt := 8) dX6_rewrites_43 (by decide) ?_
          refine WP.mem (rz_st σ r0 k0 (rzV c r s) q) ?_
          exact ih q (k + 1) hq (by omega) (by omega) (by omega)
  refine r_aload_n dX6_rewrites_0 rfl (by rfl) ?_
  refine r_iload_n dX6_rewrites_1 rfl (by rfl) ?_
  refine r_iload_n dX6_rewrites_2 rfl (by rfl) ?_
  refine r_callG2 (ct_X6_readsR _ (by first | exact hR | exact Rel_cg (sc_111 _ _) hR | exact hR.mj | exact MJ_cg (sc_111 _ _) hR.mj | omega | (rw [sc_111]; omega) | (unfold inR; omega)) _ _ (by first | exact hR | exact Rel_cg (sc_111 _ _) hR | exact hR.mj | exact MJ_cg (sc_111 _ _) hR.mj | omega | (rw [sc_111]; omega) | (unfold inR; omega)) (by first | exact hR | exact Rel_cg (sc_111 _ _) hR | exact hR.mj | exact MJ_cg (sc_111 _ _) hR.mj | omega | (rw [sc_111]; omega) | (unfold inR; omega)) (by first | exact hR | exact Rel_cg (sc_111 _ _) hR | exact hR.mj | exact MJ_cg (sc_111 _ _) hR.mj | omega | (rw [sc_111]; omega) | (unfold inR; omega)) (by first | exact hR | exact Rel_cg (sc_111 _ _) hR | exact hR.mj | exact MJ_cg (sc_111 _ _) hR.mj | omega | (rw [sc_111]; omega) | (unfold inR; omega))) fX6_reads qX6_114 dX6_rewrites_3 KD_110 (by decide) ⟨Nat.zero_le _, Nat.zero_le _⟩ (Nat.le_of_ble_eq_true rfl) (fun μ1 hμ1 => ?_)
  obtain ⟨qμ1, pμ1, rfl⟩ := hμ1
  refine r_iconst dX6_rewrites_6 ?_
  refine r_istore_n dX6_rewrites_7 rfl (Nat.le_of_ble_eq_true rfl) (L' := [_, _, _, _]) (by rfl) ?_
  refine WP.mem (σ' := scM (cpR σ 111 (250 + 10 * r + 2).toNat (0 : Int).toNat (rzV c r s)) qμ1) (by rw [show (0 : Int).toNat = 0 from rfl, cpR_0]) ?_
  exact cut_8 9 _ 0 pμ1 (by omega) (by omega) (by omega)

theorem pcl_of {c : ST} {s p : Nat} (hp : (p : Int) < c 7 s) : pcl c s (c 8 (8 * s + p)) ≠ -1 := by
  intro h
  unfold pcl at h
  rcases fnd_or (fun k => c 8 (8 * s + k)) (c 8 (8 * s + p)) (c 7 s).toNat with ⟨g, -⟩ | ⟨k, -, -, -, g⟩
  · exact g p (by omega) rfl
  · omega
theorem pcl_hit {c : ST} {s : Nat} {a : Int} (h : pcl c s a ≠ -1) : c 8 (8 * s + (pcl c s a).toNat) = a := by
  unfold pcl at h ⊢
  exact fnd_hit (f := fun k => c 8 (8 * s + k)) h
/-- the state behind a write: the row has the column -/
def wr1 (c : ST) (r s a : Int) : ST := if pcl c (c 11 r.toNat).toNat (colL c s.toNat a) ≠ -1 then c else rwV c r s (vR c r.toNat s.toNat)
theorem wrV_1 (c : ST) (r s a v : Int) : wrV c r s a v = up2 (up2 (wr1 c r s a) 13 (12 * r.toNat + (colL c s.toNat a).toNat) v) 10 3 (wr1 c r s a 10 3 + 1) := rfl
theorem wr1_has {c σ : ST} (h : Rel c σ) {r s : Int} (r0 : 0 ≤ r) (r1 : r < c 10 0) (s0 : 0 ≤ s) (s1 : s < c 2 0) {a : Int} (ha : plc c s.toNat a ≠ -1) : wr1 c r s a 10 0 = c 10 0 ∧ pcl (wr1 c r s a) (wr1 c r s a 11 r.toNat).toNat (colL c s.toNat a) ≠ -1 := by
  have hp := plc_rng h.ci s.toNat a
  have ec : colL c s.toNat a = c 8 (8 * s.toNat + (plc c s.toNat a).toNat) := by unfold colL; rw [if_neg ha]
  unfold wr1
  by_cases g : pcl c (c 11 r.toNat).toNat (colL c s.toNat a) ≠ -1
  · rw [if_pos g]; exact ⟨rfl, g⟩
  · rw [if_neg g]
    have e11 : rwV c r s (vR c r.toNat s.toNat) 11 r.toNat = s := by unfold rwV; rw [up2_no _ (by omega), up2_no _ (by omega), up2_at]
    have e7 : rwV c r s (vR c r.toNat s.toNat) 7 = c 7 := by unfold rwV; rw [up2_off _ (by omega), up2_off _ (by omega), up2_off _ (by omega), cpR_off _ _ _ _ (by omega)]
    have e8 : rwV c r s (vR c r.toNat s.toNat) 8 = c 8 := by unfold rwV; rw [up2_off _ (by omega), up2_off _ (by omega), up2_off _ (by omega), cpR_off _ _ _ _ (by omega)]
    refine ⟨by unfold rwV; rw [up2_no _ (by omega), up2_no _ (by omega), up2_no _ (by omega), cpR_no _ (by omega)], ?_⟩
    rw [e11]
    have := pcl_of (c := c) (s := s.toNat) (p := (plc c s.toNat a).toNat) (by omega)
    unfold pcl at this ⊢
    rw [e7, e8, ec]
    exact this

set_option maxRecDepth 100000 in
set_option maxHeartbeats 4000000 in
theorem ct_X6_writeR {l : Launch} {G : GG} {π : Nat → Option Nat} {σ τ : ST} (c : ST) (hR : Rel c σ) (hn0 : 0 ≤ σ 110 3) (hn1 : σ 110 3 ≤ 6) (r : Int) (hr : inR r) (s : Int) (hs : inR s) (a : Int) (ha : inR a) (v : Int) (hv : inR v) : Ct l G mX6_write (5, 0, 0) [.ref 110, .int (iI r), .int (iI s), .int (iI a), .int (iI v)] 117 KD σ τ (RHO π) (KG (some (.int (iI (if er_write c r s a v = 0 then wrV c r s a v 11 r.toNat else 0)))) (MU σ (cE 3 1 2 (er_write c r s a v)) (Rel (wrV c r s a v))) τ π) := by
  have hn := hR.nm
  have hsz := hR.ci.sz
  have hrw := hR.ci.ro
  have hcu := hR.ci.cu
  have hmk := hR.ci.mk
  have z1 : up2 σ 110 0 0 111 = σ 111 := up2_off _ (by decide)
  have R1 : Rel c (up2 σ 110 0 0) := Rel_cg z1 hR
  have n1 := R1.nm
  have J1 := R1.mj
  have R2 : Rel c (svM (up2 σ 110 0 0)) := Rel_sv hR
  have J2 := R2.mj
  have n2 := R2.nm
  have b3 : up2 σ 110 0 0 110 3 = σ 110 3 := up2_el _ _ _ (by omega)
  have rr := hr
  unfold inR at rr
  have rs := hs
  unfold inR at rs
  have ra := ha
  unfold inR at ra
  have rv := hv
  unfold inR at rv
  refine ct_intro (own := "ShapedRowsModel") rfl (by decide +kernel) (Nat.le_of_ble_eq_true rfl) (L := _) rfl ?_
  have cut_108 : ∀ (μ : ST) (C : Int), (Rel (wr1 c r s a) μ) → (∀ p, p ≠ 110 → p ≠ 111 → p ≠ 114 → μ p = svM (up2 σ 110 0 0) p) → (∀ k, k ≠ 7 → μ 110 k = svM (up2 σ 110 0 0) 110 k) → (er_write c r s a v = 0) → (C = colL c s.toNat a) → WP l G "ShapedRowsModel" mX6_write (5, 0, 0) (KG (some (.int (iI (if er_write c r s a v = 0 then wrV c r s a v 11 r.toNat else 0)))) (MU σ (cE 3 1 2 (er_write c r s a v)) (Rel (wrV c r s a v))) τ π) noX 117 108 [some (.ref 110), some (.int (iI r)), some (.int (iI s)), some (.int (iI a)), some (.int (iI v)), some (.int (iI C))] [] 117 KD μ τ (RHO π) 0 0 := by
    intro μ C hW hf1 hf2 er hC
    have hh : (0 ≤ r ∧ r < c 10 0 ∧ c 2 1 ≤ s ∧ s < c 2 0) ∧ (0 ≤ a ∧ a < 8 ∧ 0 ≤ v ∧ v ≤ 99999) ∧ refu c r.toNat s.toNat a = 0 := by
      have q := er
      unfold er_write at q
      (repeat' split at q) <;> first | omega | exact ⟨by assumption, by assumption, by assumption⟩
    have hpl : plc c s.toNat a ≠ -1 := fun z => by
      have q : refu c r.toNat s.toNat a = 1 := by
        unfold refu colL
        rw [if_pos z, if_pos rfl]
      omega
    have hw1 := wr1_has hR (a := a) hh.1.1 hh.1.2.1 (s := s) (by omega) hh.1.2.2.2 hpl
    rw [← hC] at hw1
    obtain ⟨e0, e1, e2, e3⟩ := rs_eq hW (r := r) (by omega) (by omega)
    have hpr := pcl_rng hW.ci (wr1 c r s a 11 r.toNat).toNat C
    have hph := pcl_hit hw1.2
    obtain ⟨p, hp⟩ : ∃ p, p = pcl (wr1 c r s a) (wr1 c r s a 11 r.toNat).toNat C := ⟨_, rfl⟩
    rw [← hp] at hpr hph hw1
    have hCr := colL_rng hR.ci s.toNat a
    have hfinR := Rel_val hW (r := r) (p := p) (v := v) (by omega) (by omega) (by omega) (by omega) (by omega)
    rw [hph, hC, ← wrV_1] at hfinR
    have w10 : wrV c r s a v 10 0 = c 10 0 := by
      rw [wrV_1, up2_no _ (by omega), up2_no _ (by omega)]
      exact hw1.1
    have hfin := (rs_eq hfinR (r := r) (by omega) (by omega)).1
    have hm5 : loM μ r (2 + p) v 111 5 = μ 111 5 := lo_o _ (by omega)
    have J3 := hW.mj
    have hend : MU σ (cE 3 1 2 (er_write c r s a v)) (Rel (wrV c r s a v)) (up2 (loM μ r (2 + p) v) 111 5 (μ 111 5 + 1)) := MU_sc (by rw [er]; rfl) (fun x x0 x1 x2 => by rw [up2_off _ x1, lo_r _ _ _ _ x1]; exact hf1 x x0 x1 x2) (fun x hx => by rw [up2_off _ (by omega), lo_r _ _ _ _ (by omega)]; exact hf2 x hx) hfinR
    have hwn := hW.nm
    refine r_aload_n dX6_write_108 rfl (by rfl) ?_
    refine r_iload_n dX6_write_109 rfl (by rfl) ?_
    refine r_iconst dX6_write_110 ?_
    refine r_aload_n dX6_write_111 rfl (by rfl) ?_
    refine r_aload_n dX6_write_112 rfl (by rfl) ?_
    refine r_iload_n dX6_write_113 rfl (by rfl) ?_
    refine r_iconst dX6_write_114 ?_
    refine r_callV2 (ct_X6_rowOf _ _ (by first | exact R1 | exact J1 | exact R2 | exact J2 | exact J3 | omega | exact hr | exact hs | exact ha | exact hv | (unfold inR; omega)) (by first | exact R1 | exact J1 | exact R2 | exact J2 | exact J3 | omega | exact hr | exact hs | exact ha | exact hv | (unfold inR; omega))) fX6_rowOf qX6_108 dX6_write_115 KD_110 (by decide) ⟨Nat.zero_le _, Nat.zero_le _⟩ (Nat.le_of_ble_eq_true rfl) ?_
    rw [e0]
    refine r_iload dX6_write_118 (by rfl) ?_
    refine r_callV2 (ct_X6_placeOfColumn (by first | exact R1 | exact J1 | exact R2 | exact J2 | exact J3 | omega | exact hr | exact hs | exact ha | exact hv | (unfold inR; omega)) _ (by first | exact R1 | exact J1 | exact R2 | exact J2 | exact J3 | omega | exact hr | exact hs | exact ha | exact hv | (unfold inR; omega)) (by first | exact R1 | exact J1 | exact R2 | exact J2 | exact J3 | omega | exact hr | exact hs | exact ha | exact hv | (unfold inR; omega)) _ (by first | exact R1 | exact J1 | exact R2 | exact J2 | exact J3 | omega | exact hr | exact hs | exact ha | exact hv | (unfold inR; omega))) fX6_placeOfColumn qX6_130 dX6_write_120 KD_110 (by decide) ⟨Nat.zero_le _, Nat.zero_le _⟩ (Nat.le_of_ble_eq_true rfl) ?_
    rw [pc_eq hW e3 e2, ← hp]
    refine r_iadd dX6_write_123 ?_
    refine r_iload dX6_write_124 (by rfl) ?_
    refine r_callV3 (ct_X6_layRow _ _ (by first | exact R1 | exact J1 | exact R2 | exact J2 | exact J3 | omega | exact hr | exact hs | exact ha | exact hv | (unfold inR; omega)) (by first | exact R1 | exact J1 | exact R2 | exact J2 | exact J3 | omega | exact hr | exact hs | exact ha | exact hv | (unfold inR; omega)) _) fX6_layRow qX6_117 dX6_write_126 KD_110 (by decide) ⟨Nat.zero_le _, Nat.zero_le _⟩ (Nat.le_of_ble_eq_true rfl) ?_
    refine r_aload_n dX6_write_129 rfl (by rfl) ?_
    refine r_get_r kX6_7 dX6_write_130 KD_110 (RHO_110_1 _) ?_
    refine r_iconst dX6_write_133 ?_
    refine r_dup2 dX6_write_134 rfl rfl ?_
    refine r_iaload (k := 5) dX6_write_135 KD_111 (by omega) (by omega) (by decide) ?_
    rw [hm5]
    refine r_iconst dX6_write_136 ?_
    refine r_iadd dX6_write_137 ?_
    refine r_iastore (k := 5) dX6_write_138 KD_111 (by omega) (by omega) (by decide) ?_
    refine r_aload_n dX6_write_139 rfl (by rfl) ?_
    refine r_iload_n dX6_write_140 rfl (by rfl) ?_
    refine r_iconst dX6_write_141 ?_
    refine r_callV2 (ct_X6_rowOf _ _ (by first | exact R1 | exact J1 | exact R2 | exact J2 | exact J3 | omega | exact hr | exact hs | exact ha | exact hv | (unfold inR; omega)) (by first | exact R1 | exact J1 | exact R2 | exact J2 | exact J3 | omega | exact hr | exact hs | exact ha | exact hv | (unfold inR; omega))) fX6_rowOf qX6_108 dX6_write_142 KD_110 (by decide) ⟨Nat.zero_le _, Nat.zero_le _⟩ (Nat.le_of_ble_eq_true rfl) ?_
    rw [hfin]
    exact r_ret_ig dX6_write_145 rfl ⟨Nat.zero_le _, Nat.zero_le _⟩ (by first | (rw [er, if_neg (by decide)]; done) | (rw [er, if_pos rfl]; done)) (by first | exact MU_no (by rw [e0]; decide) (LK_f e0) | exact hend)
  refine r_aload_n dX6_write_0 rfl (by rfl) ?_
  refine r_iconst dX6_write_1 ?_
  refine r_put_i kX6_25 dX6_write_2 KD_110 ?_
  refine r_aload_n dX6_write_5 rfl (by rfl) ?_
  refine r_iload_n dX6_write_6 rfl (by rfl) ?_
  refine r_callV1 (ct_X6_isRow (by first | exact R1 | exact J1 | exact R2 | exact J2 | exact J3 | omega | exact hr | exact hs | exact ha | exact hv | (unfold inR; omega)) _ (by first | exact R1 | exact J1 | exact R2 | exact J2 | exact J3 | omega | exact hr | exact hs | exact ha | exact hv | (unfold inR; omega))) fX6_isRow qX6_133 dX6_write_7 KD_110 (by decide) ⟨Nat.zero_le _, Nat.zero_le _⟩ (Nat.le_of_ble_eq_true rfl) ?_
  refine r_ifeq_b (tgt := 21) dX6_write_10 (by decide) (fun c_1 => ?_) (fun c_1 => ?_)
  · refine r_aload_n dX6_write_21 rfl (by rfl) ?_
    refine r_iconst dX6_write_22 ?_
    refine r_callV1 (ct_X6_fails _) fX6_fails qX6_120 dX6_write_23 KD_110 (by decide) ⟨Nat.zero_le _, Nat.zero_le _⟩ (Nat.le_of_ble_eq_true rfl) ?_
    have er : er_write c r s a v = 3 := by
      unfold er_write
      (repeat' split) <;> omega
    have e0 : cE 3 1 2 (er_write c r s a v) = 1 := by rw [er]; rfl
    exact r_ret_ig dX6_write_26 rfl ⟨Nat.zero_le _, Nat.zero_le _⟩ (by first | (rw [er, if_neg (by decide)]; done) | (rw [er, if_pos rfl]; done)) (by first | exact MU_no (by rw [e0]; decide) (LK_f e0) | exact hend)
  · refine r_aload_n dX6_write_13 rfl (by rfl) ?_
    refine r_iload_n dX6_write_14 rfl (by rfl) ?_
    refine r_callV1 (ct_X6_isInUse (by first | exact R1 | exact J1 | exact R2 | exact J2 | exact J3 | omega | exact hr | exact hs | exact ha | exact hv | (unfold inR; omega)) _ (by first | exact R1 | exact J1 | exact R2 | exact J2 | exact J3 | omega | exact hr | exact hs | exact ha | exact hv | (unfold inR; omega))) fX6_isInUse qX6_127 dX6_write_15 KD_110 (by decide) ⟨Nat.zero_le _, Nat.zero_le _⟩ (Nat.le_of_ble_eq_true rfl) ?_
    refine r_ifne_b (tgt := 27) dX6_write_18 (by decide) (fun c_2 => ?_) (fun c_2 => ?_)
    · refine r_iload_n dX6_write_27 rfl (by rfl) ?_
      refine r_callS1 (ct_X6_isLetter _ (by first | exact R1 | exact J1 | exact R2 | exact J2 | exact J3 | omega | exact hr | exact hs | exact ha | exact hv | (unfold inR; omega))) fX6_isLetter qX6_51 dX6_write_28 (by decide) ⟨Nat.zero_le _, Nat.zero_le _⟩ (Nat.le_of_ble_eq_true rfl) ?_
      refine r_ifeq_b (tgt := 45) dX6_write_31 (by decide) (fun c_3 => ?_) (fun c_3 => ?_)
      · refine r_aload_n dX6_write_45 rfl (by rfl) ?_
        refine r_iconst dX6_write_46 ?_
        refine r_callV1 (ct_X6_fails _) fX6_fails qX6_120 dX6_write_47 KD_110 (by decide) ⟨Nat.zero_le _, Nat.zero_le _⟩ (Nat.le_of_ble_eq_true rfl) ?_
        have er : er_write c r s a v = 1 := by
          unfold er_write
          (repeat' split) <;> omega
        have e0 : cE 3 1 2 (er_write c r s a v) = 2 := by rw [er]; rfl
        exact r_ret_ig dX6_write_50 rfl ⟨Nat.zero_le _, Nat.zero_le _⟩ (by first | (rw [er, if_neg (by decide)]; done) | (rw [er, if_pos rfl]; done)) (by first | exact MU_no (by rw [e0]; decide) (LK_f e0) | exact hend)
      · refine r_iload dX6_write_34 (by rfl) ?_
        refine r_iconst dX6_write_36 ?_
        refine r_ldc (a := 99999) qc_X6_101 (by decide) dX6_write_37 ?_
        refine r_callS3 (ct_X6_in _ (by first | exact R1 | exact J1 | exact R2 | exact J2 | exact J3 | omega | exact hr | exact hs | exact ha | exact hv | (unfold inR; omega)) _ (by first | exact R1 | exact J1 | exact R2 | exact J2 | exact J3 | omega | exact hr | exact hs | exact ha | exact hv | (unfold inR; omega)) _ (by first | exact R1 | exact J1 | exact R2 | exact J2 | exact J3 | omega | exact hr | exact hs | exact ha | exact hv | (unfold inR; omega))) fX6_in qX6_32 dX6_write_39 (by decide) ⟨Nat.zero_le _, Nat.zero_le _⟩ (Nat.le_of_ble_eq_true rfl) ?_
        refine r_ifne_b (tgt := 51) dX6_write_42 (by decide) (fun c_4 => ?_) (fun c_4 => ?_)
        · refine r_aload_n dX6_write_51 rfl (by rfl) ?_
          refine r_iload_n dX6_write_52 rfl (by rfl) ?_
          refine r_iload_n dX6_write_53 rfl (by rfl) ?_
          refine r_iload_n dX6_write_54 rfl (by rfl) ?_
          refine r_callV3 (ct_X6_isAgainst (by first | exact R1 | exact J1 | exact R2 | exact J2 | exact J3 | omega | exact hr | exact hs | exact ha | exact hv | (unfold inR; omega)) _ (by first | exact R1 | exact J1 | exact R2 | exact J2 | exact J3 | omega | exact hr | exact hs | exact ha | exact hv | (unfold inR; omega)) (by first | exact R1 | exact J1 | exact R2 | exact J2 | exact J3 | omega | exact hr | exact hs | exact ha | exact hv | (unfold inR; omega)) _ (by first | exact R1 | exact J1 | exact R2 | exact J2 | exact J3 | omega | exact hr | exact hs | exact ha | exact hv | (unfold inR; omega)) (by first | exact R1 | exact J1 | exact R2 | exact J2 | exact J3 | omega | exact hr | exact hs | exact ha | exact hv | (unfold inR; omega)) _ (by first | exact R1 | exact J1 | exact R2 | exact J2 | exact J3 | omega | exact hr | exact hs | exact ha | exact hv | (unfold inR; omega))) fX6_isAgainst qX6_136 dX6_write_55 KD_110 (by decide) ⟨Nat.zero_le _, Nat.zero_le _⟩ (Nat.le_of_ble_eq_true rfl) ?_
          rw [ag_eq R1 (by omega) (by omega) (by omega) (by omega)]
          have hag : 0 ≤ refu c r.toNat s.toNat a ∧ refu c r.toNat s.toNat a ≤ 2 := by
            unfold refu
            (repeat' split) <;> omega
          refine r_if_eq (tgt := 67) dX6_write_58 (by decide) (by unfold inR; omega) (fun c_5 => ?_) (fun c_5 => ?_)
          · refine r_aload_n dX6_write_67 rfl (by rfl) ?_
            refine r_callV0 (ct_X6_saves (by first | exact R1 | exact J1 | exact R2 | exact J2 | exact J3 | omega | exact hr | exact hs | exact ha | exact hv | (unfold inR; omega)) (by first | exact R1 | exact J1 | exact R2 | exact J2 | exact J3 | omega | exact hr | exact hs | exact ha | exact hv | (unfold inR; omega))) fX6_saves qX6_72 dX6_write_68 KD_110 (by decide) ⟨Nat.zero_le _, Nat.zero_le _⟩ (Nat.le_of_ble_eq_true rfl) ?_
            have er : er_write c r s a v = 0 := by
              unfold er_write
              (repeat' split) <;> omega
            have e0 : cE 3 1 2 (er_write c r s a v) = 0 := by rw [er]; rfl
            have hpl : plc c s.toNat a ≠ -1 := fun z => by
              have q : refu c r.toNat s.toNat a = 1 := by
                unfold refu colL
                rw [if_pos z, if_pos rfl]
              omega
            have hpr := plc_rng hR.ci s.toNat a
            have hwd := hR.ci.wd s.toNat
            obtain ⟨o0, o1, o2, o3⟩ := rs_eq R2 (r := r) (by omega) (by omega)
            obtain ⟨C, hC⟩ : ∃ C, C = colL c s.toNat a := ⟨_, rfl⟩
            have ppl : plM (svM (up2 σ 110 0 0)) s a = plc c s.toNat a := pl_eq R2 (by omega) (by omega) a
            have eC : gM (svM (up2 σ 110 0 0)) s (1 + plc c s.toNat a) = C := by
              rw [(cl_eq R2 (by omega) (by omega) (by omega) (by omega)).1, hC]
              unfold colL
              rw [if_neg hpl]
            have hCr := colL_rng hR.ci s.toNat a
            have hpq := pcl_rng hR.ci (c 11 r.toNat).toNat C
            refine r_aload_n dX6_write_71 rfl (by rfl) ?_
            refine r_iload_n dX6_write_72 rfl (by rfl) ?_
            refine r_iconst dX6_write_73 ?_
            refine r_aload_n dX6_write_74 rfl (by rfl) ?_
            refine r_iload_n dX6_write_75 rfl (by rfl) ?_
            refine r_iload_n dX6_write_76 rfl (by rfl) ?_
            refine r_callV2 (ct_X6_placeOf (by first | exact R1 | exact J1 | exact R2 | exact J2 | exact J3 | omega | exact hr | exact hs | exact ha | exact hv | (unfold inR; omega)) _ (by first | exact R1 | exact J1 | exact R2 | exact J2 | exact J3 | omega | exact hr | exact hs | exact ha | exact hv | (unfold inR; omega)) (by first | exact R1 | exact J1 | exact R2 | exact J2 | exact J3 | omega | exact hr | exact hs | exact ha | exact hv | (unfold inR; omega)) _ (by first | exact R1 | exact J1 | exact R2 | exact J2 | exact J3 | omega | exact hr | exact hs | exact ha | exact hv | (unfold inR; omega))) fX6_placeOf qX6_48 dX6_write_77 KD_110 (by decide) ⟨Nat.zero_le _, Nat.zero_le _⟩ (Nat.le_of_ble_eq_true rfl) ?_
            rw [ppl]
            refine r_iadd dX6_write_80 ?_
            refine r_callV2 (ct_X6_get _ _ (by first | exact R1 | exact J1 | exact R2 | exact J2 | exact J3 | omega | exact hr | exact hs | exact ha | exact hv | (unfold inR; omega)) (by first | exact R1 | exact J1 | exact R2 | exact J2 | exact J3 | omega | exact hr | exact hs | exact ha | exact hv | (unfold inR; omega))) fX6_get qX6_36 dX6_write_81 KD_110 (by decide) ⟨Nat.zero_le _, Nat.zero_le _⟩ (Nat.le_of_ble_eq_true rfl) ?_
            rw [eC]
            refine r_istore dX6_write_84 (Nat.le_of_ble_eq_true rfl) (L' := [_, _, _, _, _, _]) (by rfl) ?_
            refine r_aload_n dX6_write_86 rfl (by rfl) ?_
            refine r_aload_n dX6_write_87 rfl (by rfl) ?_
            refine r_iload_n dX6_write_88 rfl (by rfl) ?_
            refine r_iconst dX6_write_89 ?_
            refine r_callV2 (ct_X6_rowOf _ _ (by first | exact R1 | exact J1 | exact R2 | exact J2 | exact J3 | omega | exact hr | exact hs | exact ha | exact hv | (unfold inR; omega)) (by first | exact R1 | exact J1 | exact R2 | exact J2 | exact J3 | omega | exact hr | exact hs | exact ha | exact hv | (unfold inR; omega))) fX6_rowOf qX6_108 dX6_write_90 KD_110 (by decide) ⟨Nat.zero_le _, Nat.zero_le _⟩ (Nat.le_of_ble_eq_true rfl) ?_
            rw [o0]
            refine r_iload dX6_write_93 (by rfl) ?_
            refine r_callV2 (ct_X6_placeOfColumn (by first | exact R1 | exact J1 | exact R2 | exact J2 | exact J3 | omega | exact hr | exact hs | exact ha | exact hv | (unfold inR; omega)) _ (by first | exact R1 | exact J1 | exact R2 | exact J2 | exact J3 | omega | exact hr | exact hs | exact ha | exact hv | (unfold inR; omega)) (by first | exact R1 | exact J1 | exact R2 | exact J2 | exact J3 | omega | exact hr | exact hs | exact ha | exact hv | (unfold inR; omega)) _ (by first | exact R1 | exact J1 | exact R2 | exact J2 | exact J3 | omega | exact hr | exact hs | exact ha | exact hv | (unfold inR; omega))) fX6_placeOfColumn qX6_130 dX6_write_95 KD_110 (by decide) ⟨Nat.zero_le _, Nat.zero_le _⟩ (Nat.le_of_ble_eq_true rfl) ?_
            rw [pc_eq R2 o3 o2]
            refine r_iconst dX6_write_98 ?_
            refine r_icmp_ne (tgt := 108) dX6_write_99 (by decide) (by unfold inR; omega) (by unfold inR; omega) (fun hne => ?_) (fun hne => ?_)
            · have hW : Rel (wr1 c r s a) (svM (up2 σ 110 0 0)) := by
                unfold wr1
                rw [← hC, if_pos hne]
                exact R2
              have hf1 : ∀ p, p ≠ 110 → p ≠ 111 → p ≠ 114 → svM (up2 σ 110 0 0) p = svM (up2 σ 110 0 0) p := fun _ _ _ _ => rfl
              have hf2 : ∀ k, k ≠ 7 → svM (up2 σ 110 0 0) 110 k = svM (up2 σ 110 0 0) 110 k := fun _ _ => rfl
              exact cut_108 _ C hW hf1 hf2 er hC
            · refine r_aload_n dX6_write_102 rfl (by rfl) ?_
              refine r_iload_n dX6_write_103 rfl (by rfl) ?_
              refine r_iload_n dX6_write_104 rfl (by rfl) ?_
              refine r_callG2 (ct_X6_rewritesR _ (by first | exact R1 | exact J1 | exact R2 | exact J2 | exact J3 | omega | exact hr | exact hs | exact ha | exact hv | (unfold inR; omega)) _ _ (by first | exact R1 | exact J1 | exact R2 | exact J2 | exact J3 | omega | exact hr | exact hs | exact ha | exact hv | (unfold inR; omega)) (by first | exact R1 | exact J1 | exact R2 | exact J2 | exact J3 | omega | exact hr | exact hs | exact ha | exact hv | (unfold inR; omega)) (by first | exact R1 | exact J1 | exact R2 | exact J2 | exact J3 | omega | exact hr | exact hs | exact ha | exact hv | (unfold inR; omega)) (by first | exact R1 | exact J1 | exact R2 | exact J2 | exact J3 | omega | exact hr | exact hs | exact ha | exact hv | (unfold inR; omega))) fX6_rewrites qX6_139 dX6_write_105 KD_110 (by decide) ⟨Nat.zero_le _, Nat.zero_le _⟩ (Nat.le_of_ble_eq_true rfl) (fun μ1 hμ1 => ?_)
              obtain ⟨qμ1, pμ1, rfl⟩ := hμ1
              have hW : Rel (wr1 c r s a) (scM (rzM (svM (up2 σ 110 0 0)) r s (rzV c r s)) qμ1) := by
                unfold wr1
                rw [← hC, if_neg (by omega)]
                exact Rel_cg (sc_111 _ _) (Rel_rz R2 (by omega) (by omega) (by omega) (by omega))
              have hf1 : ∀ p, p ≠ 110 → p ≠ 111 → p ≠ 114 → scM (rzM (svM (up2 σ 110 0 0)) r s (rzV c r s)) qμ1 p = svM (up2 σ 110 0 0) p := fun p p0 p1 p2 => by rw [sc_o _ _ ⟨p0, p2⟩, rz_r _ _ _ _ p1]
              have hf2 : ∀ k, k ≠ 7 → scM (rzM (svM (up2 σ 110 0 0)) r s (rzV c r s)) qμ1 110 k = svM (up2 σ 110 0 0) 110 k := fun k hk => by rw [sc_110 _ _ hk, rz_r _ _ _ _ (by omega)]
              exact cut_108 _ C hW hf1 hf2 er hC
          · refine r_aload_n dX6_write_61 rfl (by rfl) ?_
            refine r_iconst dX6_write_62 ?_
            refine r_callV1 (ct_X6_fails _) fX6_fails qX6_120 dX6_write_63 KD_110 (by decide) ⟨Nat.zero_le _, Nat.zero_le _⟩ (Nat.le_of_ble_eq_true rfl) ?_
            have er : er_write c r s a v = 2 := by
              unfold er_write
              (repeat' split) <;> omega
            have e0 : cE 3 1 2 (er_write c r s a v) = 3 := by rw [er]; rfl
            exact r_ret_ig dX6_write_66 rfl ⟨Nat.zero_le _, Nat.zero_le _⟩ (by first | (rw [er, if_neg (by decide)]; done) | (rw [er, if_pos rfl]; done)) (by first | exact MU_no (by rw [e0]; decide) (LK_f e0) | exact hend)
        · refine r_aload_n dX6_write_45 rfl (by rfl) ?_
          refine r_iconst dX6_write_46 ?_
          refine r_callV1 (ct_X6_fails _) fX6_fails qX6_120 dX6_write_47 KD_110 (by decide) ⟨Nat.zero_le _, Nat.zero_le _⟩ (Nat.le_of_ble_eq_true rfl) ?_
          have er : er_write c r s a v = 1 := by
            unfold er_write
            (repeat' split) <;> omega
          have e0 : cE 3 1 2 (er_write c r s a v) = 2 := by rw [er]; rfl
          exact r_ret_ig dX6_write_50 rfl ⟨Nat.zero_le _, Nat.zero_le _⟩ (by first | (rw [er, if_neg (by decide)]; done) | (rw [er, if_pos rfl]; done)) (by first | exact MU_no (by rw [e0]; decide) (LK_f e0) | exact hend)
    · refine r_aload_n dX6_write_21 rfl (by rfl) ?_
      refine r_iconst dX6_write_22 ?_
      refine r_callV1 (ct_X6_fails _) fX6_fails qX6_120 dX6_write_23 KD_110 (by decide) ⟨Nat.zero_le _, Nat.zero_le _⟩ (Nat.le_of_ble_eq_true rfl) ?_
      have er : er_write c r s a v = 3 := by
        unfold er_write
        (repeat' split) <;> omega
      have e0 : cE 3 1 2 (er_write c r s a v) = 1 := by rw [er]; rfl
      exact r_ret_ig dX6_write_26 rfl ⟨Nat.zero_le _, Nat.zero_le _⟩ (by first | (rw [er, if_neg (by decide)]; done) | (rw [er, if_pos rfl]; done)) (by first | exact MU_no (by rw [e0]; decide) (LK_f e0) | exact hend)

set_option maxRecDepth 100000 in
set_option maxHeartbeats 4000000 in
theorem ct_X6_removeR {l : Launch} {G : GG} {π : Nat → Option Nat} {σ τ : ST} (c : ST) (hR : Rel c σ) (hn0 : 0 ≤ σ 110 3) (hn1 : σ 110 3 ≤ 6) (g : Int) (hg : inR g) : Ct l G mX6_remove (2, 0, 0) [.ref 110, .int (iI g)] 117 KD σ τ (RHO π) (KG (some (.int (iI (if er_remove c g = 0 then c 10 0 - 1 else 0)))) (MU σ (cE 3 9 9 (er_remove c g)) (Rel (tkF c g))) τ π) := by
  have hn := hR.nm
  have hsz := hR.ci.sz
  have hrw := hR.ci.ro
  have hcu := hR.ci.cu
  have hmk := hR.ci.mk
  have z1 : up2 σ 110 0 0 111 = σ 111 := up2_off _ (by decide)
  have R1 : Rel c (up2 σ 110 0 0) := Rel_cg z1 hR
  have n1 := R1.nm
  have J1 := R1.mj
  have R2 : Rel c (svM (up2 σ 110 0 0)) := Rel_sv hR
  have J2 := R2.mj
  have n2 := R2.nm
  have b3 : up2 σ 110 0 0 110 3 = σ 110 3 := up2_el _ _ _ (by omega)
  have rg := hg
  unfold inR at rg
  obtain ⟨M, hM⟩ : ∃ M, M = svM (up2 σ 110 0 0) := ⟨_, rfl⟩
  rw [← hM] at R2 J2 n2
  refine ct_intro (own := "ShapedRowsModel") rfl (by decide +kernel) (Nat.le_of_ble_eq_true rfl) (L := _) rfl ?_
  have cut_76 : ∀ (N : Nat) (k : Int), (0 ≤ g ∧ g < c 10 0) → (0 ≤ k) → (k ≤ 10) → 10 - k < (N : Int) → WP l G "ShapedRowsModel" mX6_remove (2, 0, 0) (KG (some (.int (iI (if er_remove c g = 0 then c 10 0 - 1 else 0)))) (MU σ (cE 3 9 9 (er_remove c g)) (Rel (tkF c g))) τ π) noX 117 76 [some (.ref 110), some (.int (iI g)), some (.int (iI (250 + 10 * (c 10 0 - 1)))), some (.int (iI k))] [] 117 KD (cpR (cpR M 111 (250 + 10 * g).toNat (10 * (c 10 0 - 1 - g)).toNat (fun j => M 111 ((250 + 10 * g).toNat + j + 10))) 111 (250 + 10 * (c 10 0 - 1)).toNat k.toNat (fun _ => 0)) τ (RHO π) 0 0 := by
    intro N
    induction N with
    | zero => intro k hg1 k0 k1 hm; exact absurd hm (by omega)
    | succ N ih =>
      intro k hg1 k0 k1 hm
      refine r_iload_n dX6_remove_76 rfl (by rfl) ?_
      refine r_bipush dX6_remove_77 (by decide) ?_
      refine r_icmp_ge (tgt := 97) dX6_remove_79 (by decide) (by unfold inR; omega) (by unfold inR; omega) (fun c_1 => ?_) (fun c_1 => ?_)
      · rw [show k.toNat = 10 by omega]
        obtain ⟨Z, hZ⟩ : ∃ Z, Z = cpR (cpR M 111 (250 + 10 * g).toNat (10 * (c 10 0 - 1 - g)).toNat (fun j => M 111 ((250 + 10 * g).toNat + j + 10))) 111 (250 + 10 * (c 10 0 - 1)).toNat 10 (fun _ => 0) := ⟨_, rfl⟩
        rw [← hZ]
        have z2 : Z 111 2 = c 10 0 := by rw [hZ, cpR_no _ (by omega), cpR_no _ (by omega)]; exact n2.2.2.1
        have z3 : up2 Z 111 2 (c 10 0 - 1) 111 3 = c 10 1 := by rw [up2_el _ _ _ (by omega), hZ, cpR_no _ (by omega), cpR_no _ (by omega)]; exact n2.2.2.2.1
        have hr2 : rmM M g 111 2 = c 10 0 - 1 := by unfold rmM; rw [up2_el _ _ _ (by omega), up2_at, n2.2.2.1]
        have er : er_remove c g = 0 := by unfold er_remove; rw [if_pos hg1]
        have e0 : cE 3 9 9 (er_remove c g) = 0 := by rw [er]; rfl
        have hend : MU σ (cE 3 9 9 (er_remove c g)) (Rel (tkF c g)) (rmM M g) := MU_sc e0 (fun p p0 p1 p2 => by rw [rm_r _ _ p1, hM]) (fun k hk => by rw [rm_r _ _ (by omega), hM]) (Rel_rem R2 hg1.1 hg1.2)
        refine r_aload_n dX6_remove_97 rfl (by rfl) ?_
        refine r_get_r kX6_7 dX6_remove_98 KD_110 (RHO_110_1 _) ?_
        refine r_iconst dX6_remove_101 ?_
        refine r_dup2 dX6_remove_102 rfl rfl ?_
        refine r_iaload (k := 2) dX6_remove_103 KD_111 (by omega) (by omega) (by decide) ?_
        rw [z2]
        refine r_iconst dX6_remove_104 ?_
        refine r_isub dX6_remove_105 ?_
        refine r_iastore (k := 2) dX6_remove_106 KD_111 (by omega) (by omega) (by decide) ?_
        refine r_aload_n dX6_remove_107 rfl (by rfl) ?_
        refine r_get_r kX6_7 dX6_remove_108 KD_110 (RHO_110_1 _) ?_
        refine r_iconst dX6_remove_111 ?_
        refine r_dup2 dX6_remove_112 rfl rfl ?_
        refine r_iaload (k := 3) dX6_remove_113 KD_111 (by omega) (by omega) (by decide) ?_
        rw [z3]
        refine r_aload_n dX6_remove_114 rfl (by rfl) ?_
        refine r_get_r kX6_7 dX6_remove_115 KD_110 (RHO_110_1 _) ?_
        refine r_iconst dX6_remove_118 ?_
        refine r_iaload (k := 3) dX6_remove_119 KD_111 (by omega) (by omega) (by decide) ?_
        rw [z3]
        refine r_iload_n dX6_remove_120 rfl (by rfl) ?_
        refine r_icmp_le (tgt := 128) dX6_remove_121 (by decide) (by unfold inR; omega) (by unfold inR; omega) (fun c_2 => ?_) (fun c_2 => ?_)
        · refine r_iconst dX6_remove_128 ?_
          refine r_isub dX6_remove_129 ?_
          refine r_iastore (k := 3) dX6_remove_130 KD_111 (by omega) (by omega) (by decide) ?_
          refine WP.mem (σ' := rmM M g) (by unfold rmM; rw [n2.2.2.1, n2.2.2.2.1, ← hZ]; first | (rw [if_pos (by omega)]; done) | (rw [if_neg (by omega)]; done)) ?_
          refine r_aload_n dX6_remove_131 rfl (by rfl) ?_
          refine r_get_r kX6_7 dX6_remove_132 KD_110 (RHO_110_1 _) ?_
          refine r_iconst dX6_remove_135 ?_
          refine r_iaload (k := 2) dX6_remove_136 KD_111 (by omega) (by omega) (by decide) ?_
          rw [hr2]
          exact r_ret_ig dX6_remove_137 rfl ⟨Nat.zero_le _, Nat.zero_le _⟩ (by first | (rw [er, if_neg (by decide)]; done) | (rw [er, if_pos rfl]; done)) (by first | exact MU_no (by rw [e0]; decide) (LK_f e0) | exact hend)
        · refine r_iconst dX6_remove_124 ?_
          refine r_goto (tgt := 129) dX6_remove_125 (by decide) ?_
          refine r_isub dX6_remove_129 ?_
          refine r_iastore (k := 3) dX6_remove_130 KD_111 (by omega) (by omega) (by decide) ?_
          refine WP.mem (σ' := rmM M g) (by unfold rmM; rw [n2.2.2.1, n2.2.2.2.1, ← hZ]; first | (rw [if_pos (by omega)]; done) | (rw [if_neg (by omega)]; done)) ?_
          refine r_aload_n dX6_remove_131 rfl (by rfl) ?_
          refine r_get_r kX6_7 dX6_remove_132 KD_110 (RHO_110_1 _) ?_
          refine r_iconst dX6_remove_135 ?_
          refine r_iaload (k := 2) dX6_remove_136 KD_111 (by omega) (by omega) (by decide) ?_
          rw [hr2]
          exact r_ret_ig dX6_remove_137 rfl ⟨Nat.zero_le _, Nat.zero_le _⟩ (by first | (rw [er, if_neg (by decide)]; done) | (rw [er, if_pos rfl]; done)) (by first | exact MU_no (by rw [e0]; decide) (LK_f e0) | exact hend)
      · refine r_aload_n dX6_remove_82 rfl (by rfl) ?_
        refine r_get_r kX6_7 dX6_remove_83 KD_110 (RHO_110_1 _) ?_
        refine r_iload_n dX6_remove_86 rfl (by rfl) ?_
        refine r_iload_n dX6_remove_87 rfl (by rfl) ?_
        refine r_iadd dX6_remove_88 ?_
        refine r_iconst dX6_remove_89 ?_
        refine r_iast dX6_remove_90 KD_111 (by omega) (by omega) (by first | decide | omega) ?_
        refine r_iinc dX6_remove_91 (by rfl) (Nat.le_of_ble_eq_true rfl) (L' := [_, _, _, _]) (by rfl) ?_
        refine r_goto (tgt := 76) dX6_remove_94 (by decide) ?_
        refine WP.mem ?_ (ih (k + 1) hg1 (by omega) (by omega) (by omega))
        rw [show (250 + 10 * (c 10 0 - 1) + k).toNat = (250 + 10 * (c 10 0 - 1)).toNat + k.toNat by omega, show (k + 1).toNat = k.toNat + 1 by omega]
        exact cpR_up _ 111 _ _ (fun _ => 0)
  have cut_48 : ∀ (N : Nat) (k : Int), (0 ≤ g ∧ g < c 10 0) → (250 + 10 * g ≤ k) → (k ≤ 250 + 10 * (c 10 0 - 1)) → 250 + 10 * (c 10 0 - 1) - k < (N : Int) → WP l G "ShapedRowsModel" mX6_remove (2, 0, 0) (KG (some (.int (iI (if er_remove c g = 0 then c 10 0 - 1 else 0)))) (MU σ (cE 3 9 9 (er_remove c g)) (Rel (tkF c g))) τ π) noX 117 48 [some (.ref 110), some (.int (iI g)), some (.int (iI (250 + 10 * (c 10 0 - 1)))), some (.int (iI k))] [] 117 KD (cpR M 111 (250 + 10 * g).toNat (k - (250 + 10 * g)).toNat (fun j => M 111 ((250 + 10 * g).toNat + j + 10))) τ (RHO π) 0 0 := by
    intro N
    induction N with
    | zero => intro k hg1 k0 k1 hm; exact absurd hm (by omega)
    | succ N ih =>
      intro k hg1 k0 k1 hm
      have hrd : cpR M 111 (250 + 10 * g).toNat (k - (250 + 10 * g)).toNat (fun j => M 111 ((250 + 10 * g).toNat + j + 10)) 111 (k + 10).toNat = M 111 ((250 + 10 * g).toNat + (k - (250 + 10 * g)).toNat + 10) := by
        rw [cpR_no _ (by omega)]
        congr 1
        omega
      refine r_iload_n dX6_remove_48 rfl (by rfl) ?_
      refine r_iload_n dX6_remove_49 rfl (by rfl) ?_
      refine r_icmp_ge (tgt := 74) dX6_remove_50 (by decide) (by unfold inR; omega) (by unfold inR; omega) (fun c_3 => ?_) (fun c_3 => ?_)
      · refine r_iconst dX6_remove_74 ?_
        refine r_istore_n dX6_remove_75 rfl (Nat.le_of_ble_eq_true rfl) (L' := [_, _, _, _]) (by rfl) ?_
        refine WP.mem (σ' := cpR (cpR M 111 (250 + 10 * g).toNat (10 * (c 10 0 - 1 - g)).toNat (fun j => M 111 ((250 + 10 * g).toNat + j + 10))) 111 (250 + 10 * (c 10 0 - 1)).toNat (0 : Int).toNat (fun _ => 0)) ?_ (cut_76 11 0 hg1 (by omega) (by omega) (by omega))
        rw [show (0 : Int).toNat = 0 from rfl, cpR_0, show (k - (250 + 10 * g)).toNat = (10 * (c 10 0 - 1 - g)).toNat by omega]
      · refine r_aload_n dX6_remove_53 rfl (by rfl) ?_
        refine r_get_r kX6_7 dX6_remove_54 KD_110 (RHO_110_1 _) ?_
        refine r_iload_n dX6_remove_57 rfl (by rfl) ?_
        refine r_aload_n dX6_remove_58 rfl (by rfl) ?_
        refine r_get_r kX6_7 dX6_remove_59 KD_110 (RHO_110_1 _) ?_
        refine r_iload_n dX6_remove_62 rfl (by rfl) ?_
        refine r_bipush dX6_remove_63 (by decide) ?_
        refine r_iadd dX6_remove_65 ?_
        refine r_iald dX6_remove_66 KD_111 (by omega) (by omega) (by first | decide | omega) ?_
        rw [hrd]
        refine r_iast dX6_remove_67 KD_111 (by omega) (by omega) (by first | decide | omega) ?_
        refine r_iinc dX6_remove_68 (by rfl) (Nat.le_of_ble_eq_true rfl) (L' := [_, _, _, _]) (by rfl) ?_
        refine r_goto (tgt := 48) dX6_remove_71 (by decide) ?_
        refine WP.mem ?_ (ih (k + 1) hg1 (by omega) (by omega) (by omega))
        rw [show k.toNat = (250 + 10 * g).toNat + (k - (250 + 10 * g)).toNat by omega, show (k + 1 - (250 + 10 * g)).toNat = (k - (250 + 10 * g)).toNat + 1 by omega]
        exact cpR_up M 111 _ _ (fun j => M 111 ((250 + 10 * g).toNat + j + 10))
  refine r_aload_n dX6_remove_0 rfl (by rfl) ?_
  refine r_iconst dX6_remove_1 ?_
  refine r_put_i kX6_25 dX6_remove_2 KD_110 ?_
  refine r_aload_n dX6_remove_5 rfl (by rfl) ?_
  refine r_iload_n dX6_remove_6 rfl (by rfl) ?_
  refine r_callV1 (ct_X6_isRow (by first | exact R1 | exact J1 | exact hg | omega | (unfold inR; omega)) _ (by first | exact R1 | exact J1 | exact hg | omega | (unfold inR; omega))) fX6_isRow qX6_133 dX6_remove_7 KD_110 (by decide) ⟨Nat.zero_le _, Nat.zero_le _⟩ (Nat.le_of_ble_eq_true rfl) ?_
  refine r_ifne_b (tgt := 19) dX6_remove_10 (by decide) (fun c_4 => ?_) (fun c_4 => ?_)
  · refine r_aload_n dX6_remove_19 rfl (by rfl) ?_
    refine r_callV0 (ct_X6_saves (by first | exact R1 | exact J1 | exact hg | omega | (unfold inR; omega)) (by first | exact R1 | exact J1 | exact hg | omega | (unfold inR; omega))) fX6_saves qX6_72 dX6_remove_20 KD_110 (by decide) ⟨Nat.zero_le _, Nat.zero_le _⟩ (Nat.le_of_ble_eq_true rfl) ?_
    rw [← hM]
    have hg1 : 0 ≤ g ∧ g < c 10 0 := by omega
    refine r_sipush dX6_remove_23 (by decide) ?_
    refine r_bipush dX6_remove_26 (by decide) ?_
    refine r_aload_n dX6_remove_28 rfl (by rfl) ?_
    refine r_get_r kX6_7 dX6_remove_29 KD_110 (RHO_110_1 _) ?_
    refine r_iconst dX6_remove_32 ?_
    refine r_iaload (k := 2) dX6_remove_33 KD_111 (by omega) (by omega) (by decide) ?_
    rw [n2.2.2.1]
    refine r_iconst dX6_remove_34 ?_
    refine r_isub dX6_remove_35 ?_
    refine r_imul dX6_remove_36 ?_
    refine r_iadd dX6_remove_37 ?_
    refine r_istore_n dX6_remove_38 rfl (Nat.le_of_ble_eq_true rfl) (L' := [_, _, _, _]) (by rfl) ?_
    refine r_sipush dX6_remove_39 (by decide) ?_
    refine r_bipush dX6_remove_42 (by decide) ?_
    refine r_iload_n dX6_remove_44 rfl (by rfl) ?_
    refine r_imul dX6_remove_45 ?_
    refine r_iadd dX6_remove_46 ?_
    refine r_istore_n dX6_remove_47 rfl (Nat.le_of_ble_eq_true rfl) (L' := [_, _, _, _]) (by rfl) ?_
    refine WP.mem (σ' := cpR M 111 (250 + 10 * g).toNat (250 + 10 * g - (250 + 10 * g)).toNat (fun j => M 111 ((250 + 10 * g).toNat + j + 10))) ?_ (cut_48 121 _ hg1 (by omega) (by omega) (by omega))
    rw [show (250 + 10 * g - (250 + 10 * g)).toNat = 0 by omega, cpR_0]
  · refine r_aload_n dX6_remove_13 rfl (by rfl) ?_
    refine r_iconst dX6_remove_14 ?_
    refine r_callV1 (ct_X6_fails _) fX6_fails qX6_120 dX6_remove_15 KD_110 (by decide) ⟨Nat.zero_le _, Nat.zero_le _⟩ (Nat.le_of_ble_eq_true rfl) ?_
    have er : er_remove c g = 3 := by
      unfold er_remove
      (repeat' split) <;> omega
    have e0 : cE 3 9 9 (er_remove c g) = 1 := by rw [er]; rfl
    exact r_ret_ig dX6_remove_18 rfl ⟨Nat.zero_le _, Nat.zero_le _⟩ (by first | (rw [er, if_neg (by decide)]; done) | (rw [er, if_pos rfl]; done)) (by first | exact MU_no (by rw [e0]; decide) (LK_f e0) | exact hend)

/-- one step of the cursor -/
theorem st1_1 {c : ST} (h : c 10 0 ≠ 0) : st1 c = up2 (if c 11 (nrow c).toNat < c 2 0 - 1 then rwV c (nrow c) (c 2 0 - 1) (vR c (nrow c).toNat (c 2 0 - 1).toNat) else c) 10 1 (nrow c + 1) := by
  unfold st1
  rw [if_neg h]
  rfl
theorem itS_0 {c : ST} (h : c 10 0 = 0) : ∀ n, itS c n = c
  | 0 => rfl
  | n + 1 => by
    show st1 (itS c n) = c
    rw [itS_0 h n]
    unfold st1
    rw [if_pos h]
def GM (σ σ' : ST) : Prop := (∀ p, p ≠ 110 → p ≠ 111 → p ≠ 114 → σ' p = σ p) ∧ ∀ k, k ≠ 7 → σ' 110 k = σ 110 k
theorem GM.rf (σ : ST) : GM σ σ := ⟨fun _ _ _ _ => rfl, fun _ _ => rfl⟩
theorem GM.tr {a b d : ST} (h : GM a b) (g : GM b d) : GM a d := ⟨fun p p0 p1 p2 => (g.1 p p0 p1 p2).trans (h.1 p p0 p1 p2), fun k hk => (g.2 k hk).trans (h.2 k hk)⟩
theorem GM_m {σ σ' : ST} (h : ∀ p, p ≠ 111 → σ' p = σ p) : GM σ σ' := ⟨fun p _ p1 _ => h p p1, fun k _ => by rw [h 110 (by omega)]⟩
theorem GM_sc (σ : ST) (q : Int × (Nat → Int)) : GM σ (scM σ q) := ⟨fun p p0 _ p2 => sc_o _ _ ⟨p0, p2⟩, fun k hk => sc_110 _ _ hk⟩
theorem st1_sz (c : ST) : st1 c 10 0 = c 10 0 := by
  by_cases h : c 10 0 = 0
  · unfold st1; rw [if_pos h]
  · rw [st1_1 h, up2_no _ (by omega)]
    split
    · unfold rwV; rw [up2_no _ (by omega), up2_no _ (by omega), up2_no _ (by omega), cpR_no _ (by omega)]
    · rfl
theorem itS_sz (c : ST) : ∀ n, itS c n 10 0 = c 10 0
  | 0 => rfl
  | n + 1 => by show st1 (itS c n) 10 0 = _; rw [st1_sz, itS_sz c n]
theorem nrow_rng {c : ST} (h : CI c) (hz : 0 < c 10 0) : 0 ≤ nrow c ∧ nrow c < c 10 0 := by
  have hc := h.cu
  unfold nrow
  split <;> omega
theorem st1_rw {c : ST} (h : c 10 0 ≠ 0) : st1 c 10 2 = c 10 2 + (if c 11 (nrow c).toNat < c 2 0 - 1 then 1 else 0) := by
  rw [st1_1 h, up2_no _ (by omega)]
  split
  · unfold rwV; rw [up2_at]
  · omega
theorem cf_eq {c c' : ST} (h3 : c' 3 = c 3) (h4 : c' 4 = c 4) (h5 : c' 5 = c 5) (h6 : c' 6 = c 6) (v : Nat → Int) (a : Nat) : ∀ n, cf c' v a n = cf c v a n
  | 0 => rfl
  | n + 1 => by
    show cfS c' (cf c' v a n) (a + n + 1) = cfS c (cf c v a n) (a + n + 1)
    rw [cf_eq h3 h4 h5 h6 v a n]
    unfold cfS
    rw [h3, h4, h5, h6]
theorem cb_eq {c c' : ST} (h3 : c' 3 = c 3) (h4 : c' 4 = c 4) (h5 : c' 5 = c 5) (v : Nat → Int) (a : Nat) : ∀ n, cb c' v a n = cb c v a n
  | 0 => rfl
  | n + 1 => by
    show cbS c' (cb c' v a n) (a - n) = cbS c (cb c v a n) (a - n)
    rw [cb_eq h3 h4 h5 v a n]
    unfold cbS
    rw [h3, h4, h5]
theorem vR_cur (c : ST) (x : Int) (r s : Nat) : vR (up2 c 10 1 x) r s = vR c r s := by
  have e : ∀ p, p ≠ 10 → up2 c 10 1 x p = c p := fun p hp => up2_off _ hp
  unfold vR
  rw [e 11 (by omega), e 13 (by omega), cf_eq (e 3 (by omega)) (e 4 (by omega)) (e 5 (by omega)) (e 6 (by omega)), cb_eq (e 3 (by omega)) (e 4 (by omega)) (e 5 (by omega))]
theorem cur_cur (c : ST) (x y : Int) : up2 (up2 c 10 1 x) 10 1 y = up2 c 10 1 y := by
  funext p i
  by_cases h : p = 10 ∧ i = 1
  · rw [h.1, h.2, up2_at, up2_at]
  · rw [up2_no _ h, up2_no _ h, up2_no _ h]
theorem rwV_cur (c : ST) (x y : Int) (r s : Int) (v : Nat → Int) : up2 (rwV (up2 c 10 1 x) r s v) 10 1 y = up2 (rwV c r s v) 10 1 y := by
  funext p i
  by_cases h : p = 10 ∧ i = 1
  · rw [h.1, h.2, up2_at, up2_at]
  · rw [up2_no _ h, up2_no _ h]
    unfold rwV
    rw [up2_no (p := 10) (k := 1) (a := 12) c (by omega), up2_no (p := 10) (k := 1) (a := 10) (b := 2) c (by omega)]
    by_cases h1 : p = 10 ∧ i = 2
    · rw [h1.1, h1.2, up2_at, up2_at]
    · rw [up2_no _ h1, up2_no _ h1]
      by_cases h2 : p = 12 ∧ i = r.toNat
      · rw [h2.1, h2.2, up2_at, up2_at]
      · rw [up2_no _ h2, up2_no _ h2]
        by_cases h3 : p = 11 ∧ i = r.toNat
        · rw [h3.1, h3.2, up2_at, up2_at]
        · rw [up2_no _ h3, up2_no _ h3]
          by_cases h4 : p = 13 ∧ 12 * r.toNat ≤ i ∧ i < 12 * r.toNat + 12
          · rw [h4.1, cpR_yes _ h4.2, cpR_yes _ h4.2]
          · rw [cpR_no _ h4, cpR_no _ h4, up2_no _ h]

set_option maxRecDepth 100000 in
set_option maxHeartbeats 4000000 in
theorem ct_X6_goesOnR {l : Launch} {G : GG} {π : Nat → Option Nat} {σ τ : ST} (c : ST) (hR : Rel c σ) (m : Int) (m0 : 0 ≤ m) (m1 : m ≤ 12) : Ct l G mX6_goesOn (5, 0, 0) [.ref 110, .int (iI m)] 117 KD σ τ (RHO π) (KG (some (.int (iI (itS c m.toNat 10 2 - c 10 2)))) (fun σ' => Rel (itS c m.toNat) σ' ∧ GM σ σ') τ π) := by
  have hn := hR.nm
  have hsz := hR.ci.sz
  have hrw := hR.ci.ro
  have hcu := hR.ci.cu
  have hmk := hR.ci.mk
  refine ct_intro (own := "ShapedRowsModel") rfl (by decide +kernel) (Nat.le_of_ble_eq_true rfl) (L := _) rfl ?_
  have cut_4 : ∀ (N : Nat) (μ d : ST) (n k : Int), (Rel d μ) → (GM σ μ) → (0 ≤ k) → (k ≤ m) → (d = itS c k.toNat) → (n = d 10 2 - c 10 2) → m - k < (N : Int) → WP l G "ShapedRowsModel" mX6_goesOn (5, 0, 0) (KG (some (.int (iI (itS c m.toNat 10 2 - c 10 2)))) (fun σ' => Rel (itS c m.toNat) σ' ∧ GM σ σ') τ π) noX 117 4 [some (.ref 110), some (.int (iI m)), some (.int (iI n)), some (.int (iI k))] [] 117 KD μ τ (RHO π) 0 0 := by
    intro N
    induction N with
    | zero => intro μ d n k hd hg k0 k1 hdi hnd hm; exact absurd hm (by omega)
    | succ N ih =>
      intro μ d n k hd hg k0 k1 hdi hnd hm
      have nd := hd.nm
      have hr := hd.ci.ro
      have hc := hd.ci.cu
      have hsz2 := hd.ci.sz
      have hdJ := hd.mj
      have dz : d 10 0 = c 10 0 := by rw [hdi, itS_sz]
      have hnr : 0 < d 10 0 → 0 ≤ nrow d ∧ nrow d < d 10 0 := nrow_rng hd.ci
      have hnw : (if d 10 1 < d 10 0 then d 10 1 else 0) = nrow d := rfl
      have hst : itS c (k + 1).toNat = st1 d := by
        rw [show (k + 1).toNat = k.toNat + 1 by omega, hdi]
        rfl
      refine r_iload_n dX6_goesOn_4 rfl (by rfl) ?_
      refine r_iload_n dX6_goesOn_5 rfl (by rfl) ?_
      refine r_icmp_ge (tgt := 100) dX6_goesOn_6 (by decide) (by unfold inR; omega) (by unfold inR; omega) (fun hkm => ?_) (fun hkm => ?_)
      · have hmk : itS c m.toNat = d := by rw [hdi, show k.toNat = m.toNat by omega]
        refine r_iload_n dX6_goesOn_100 rfl (by rfl) ?_
        exact r_ret_ig dX6_goesOn_101 rfl ⟨Nat.zero_le _, Nat.zero_le _⟩ (by rw [hmk, hnd]) (by exact ⟨by rw [hmk]; exact hd, hg⟩)
      · refine r_aload_n dX6_goesOn_9 rfl (by rfl) ?_
        refine r_get_r kX6_7 dX6_goesOn_10 KD_110 (RHO_110_1 _) ?_
        refine r_iconst dX6_goesOn_13 ?_
        refine r_iaload (k := 2) dX6_goesOn_14 KD_111 (by omega) (by omega) (by decide) ?_
        rw [nd.2.2.1]
        refine r_if_le (tgt := 100) dX6_goesOn_15 (by decide) (by unfold inR; omega) (fun hz => ?_) (fun hz => ?_)
        · have hmk : itS c m.toNat = d := by
            have c0 : c 10 0 = 0 := by omega
            rw [hdi, itS_0 c0, itS_0 c0]
          refine r_iload_n dX6_goesOn_100 rfl (by rfl) ?_
          exact r_ret_ig dX6_goesOn_101 rfl ⟨Nat.zero_le _, Nat.zero_le _⟩ (by rw [hmk, hnd]) (by exact ⟨by rw [hmk]; exact hd, hg⟩)
        · refine r_aload_n dX6_goesOn_18 rfl (by rfl) ?_
          refine r_get_r kX6_7 dX6_goesOn_19 KD_110 (RHO_110_1 _) ?_
          refine r_iconst dX6_goesOn_22 ?_
          refine r_aload_n dX6_goesOn_23 rfl (by rfl) ?_
          refine r_get_r kX6_7 dX6_goesOn_24 KD_110 (RHO_110_1 _) ?_
          refine r_iconst dX6_goesOn_27 ?_
          refine r_iaload (k := 3) dX6_goesOn_28 KD_111 (by omega) (by omega) (by decide) ?_
          rw [nd.2.2.2.1]
          refine r_aload_n dX6_goesOn_29 rfl (by rfl) ?_
          refine r_get_r kX6_7 dX6_goesOn_30 KD_110 (RHO_110_1 _) ?_
          refine r_iconst dX6_goesOn_33 ?_
          refine r_iaload (k := 2) dX6_goesOn_34 KD_111 (by omega) (by omega) (by decide) ?_
          rw [nd.2.2.1]
          refine r_icmp_ge (tgt := 47) dX6_goesOn_35 (by decide) (by unfold inR; omega) (by unfold inR; omega) (fun c_1 => ?_) (fun c_1 => ?_)
          · refine r_iconst dX6_goesOn_47 ?_
            refine WP.top (b := nrow d) (by rw [← hnw]; first | (rw [if_pos (by omega)]; done) | (rw [if_neg (by omega)]; done)) ?_
            have hnq := hnr (by omega)
            refine r_iastore (k := 3) dX6_goesOn_48 KD_111 (by omega) (by omega) (by decide) ?_
            obtain ⟨K, hKe⟩ : ∃ K, K = up2 μ 111 3 (nrow d) := ⟨_, rfl⟩
            rw [← hKe]
            have hK : Rel (up2 d 10 1 (nrow d)) K := by rw [hKe]; exact Rel_cur hd (by omega)
            have hKJ := hK.mj
            have kn := hK.nm
            have k3 : K 111 3 = nrow d := by rw [hKe, up2_at]
            have ko : oM K (nrow d) 0 = d 11 (nrow d).toNat := by
              have e := (rs_eq hK (r := nrow d) (by omega) (by rw [up2_no _ (by omega)]; omega)).1
              rw [up2_no _ (by omega)] at e
              exact e
            have k2 : K 111 0 = d 2 0 := by rw [kn.1, up2_no _ (by omega)]
            have hrb := hd.ro (nrow d).toNat (by omega)
            have hrs := hd.ci.rs (nrow d).toNat
            have hGK : GM σ K := hg.tr (GM_m (fun p hp => by rw [hKe, up2_off _ hp]))
            refine r_aload_n dX6_goesOn_49 rfl (by rfl) ?_
            refine r_aload_n dX6_goesOn_50 rfl (by rfl) ?_
            refine r_get_r kX6_7 dX6_goesOn_51 KD_110 (RHO_110_1 _) ?_
            refine r_iconst dX6_goesOn_54 ?_
            refine r_iaload (k := 3) dX6_goesOn_55 KD_111 (by omega) (by omega) (by decide) ?_
            rw [k3]
            refine r_iconst dX6_goesOn_56 ?_
            refine r_callV2 (ct_X6_rowOf _ _ (by first | exact hd | exact hK | exact K3 | exact hKJ | omega | (unfold inR; omega)) (by first | exact hd | exact hK | exact K3 | exact hKJ | omega | (unfold inR; omega))) fX6_rowOf qX6_108 dX6_goesOn_57 KD_110 (by decide) ⟨Nat.zero_le _, Nat.zero_le _⟩ (Nat.le_of_ble_eq_true rfl) ?_
            rw [ko]
            refine r_aload_n dX6_goesOn_60 rfl (by rfl) ?_
            refine r_callV0 ct_X6_newest fX6_newest qX6_44 dX6_goesOn_61 KD_110 (by decide) ⟨Nat.zero_le _, Nat.zero_le _⟩ (Nat.le_of_ble_eq_true rfl) ?_
            rw [k2]
            refine r_icmp_ge (tgt := 84) dX6_goesOn_64 (by decide) (by unfold inR; omega) (by unfold inR; omega) (fun hb => ?_) (fun hb => ?_)
            · have hv3 := k3
              have hF : Rel (st1 d) (up2 K 111 3 (nrow d + 1)) := by
                have e := Rel_cur hK (x := nrow d + 1) (by omega)
                rw [cur_cur] at e
                rw [st1_1 (by omega), if_neg (by omega)]
                exact e
              have hG : GM σ (up2 K 111 3 (nrow d + 1)) := hGK.tr (GM_m (fun p hp => up2_off _ hp))
              refine r_aload_n dX6_goesOn_84 rfl (by rfl) ?_
              refine r_get_r kX6_7 dX6_goesOn_85 KD_110 (RHO_110_1 _) ?_
              refine r_iconst dX6_goesOn_88 ?_
              refine r_dup2 dX6_goesOn_89 rfl rfl ?_
              refine r_iaload (k := 3) dX6_goesOn_90 KD_111 (by omega) (by omega) (by decide) ?_
              rw [hv3]
              refine r_iconst dX6_goesOn_91 ?_
              refine r_iadd dX6_goesOn_92 ?_
              refine r_iastore (k := 3) dX6_goesOn_93 KD_111 (by omega) (by omega) (by decide) ?_
              refine r_iinc dX6_goesOn_94 (by rfl) (Nat.le_of_ble_eq_true rfl) (L' := [_, _, _, _]) (by rfl) ?_
              refine r_goto (tgt := 4) dX6_goesOn_97 (by decide) ?_
              exact ih _ _ _ (k + 1) hF hG (by omega) (by omega) hst.symm (by rw [st1_rw (by omega)]; first | (rw [if_pos (by omega)]; omega) | (rw [if_neg (by omega)]; omega)) (by omega)
            · refine r_aload_n dX6_goesOn_67 rfl (by rfl) ?_
              refine r_aload_n dX6_goesOn_68 rfl (by rfl) ?_
              refine r_get_r kX6_7 dX6_goesOn_69 KD_110 (RHO_110_1 _) ?_
              refine r_iconst dX6_goesOn_72 ?_
              refine r_iaload (k := 3) dX6_goesOn_73 KD_111 (by omega) (by omega) (by decide) ?_
              rw [k3]
              refine r_aload_n dX6_goesOn_74 rfl (by rfl) ?_
              refine r_callV0 ct_X6_newest fX6_newest qX6_44 dX6_goesOn_75 KD_110 (by decide) ⟨Nat.zero_le _, Nat.zero_le _⟩ (Nat.le_of_ble_eq_true rfl) ?_
              rw [k2]
              refine r_callG2 (ct_X6_rewritesR (up2 d 10 1 (nrow d)) hK (nrow d) (d 2 0 - 1) (by omega) (by rw [up2_no _ (by omega)]; omega) (by omega) (by rw [up2_no _ (by omega)]; omega)) fX6_rewrites qX6_139 dX6_goesOn_78 KD_110 (by decide) ⟨Nat.zero_le _, Nat.zero_le _⟩ (Nat.le_of_ble_eq_true rfl) (fun μ1 hμ1 => ?_)
              obtain ⟨qμ1, pμ1, rfl⟩ := hμ1
              have hRz := Rel_rz hK (r := nrow d) (s := d 2 0 - 1) (by omega) (by rw [up2_no _ (by omega)]; omega) (by omega) (by rw [up2_no _ (by omega)]; omega)
              obtain ⟨Q, hQ⟩ : ∃ Q, Q = scM (rzM K (nrow d) (d 2 0 - 1) (rzV (up2 d 10 1 (nrow d)) (nrow d) (d 2 0 - 1))) qμ1 := ⟨_, rfl⟩
              rw [← hQ]
              have hv3 : Q 111 3 = nrow d := by
                rw [hQ, sc_111]
                unfold rzM
                rw [up2_el _ _ _ (by omega), lo_o _ (by omega), lo_o _ (by omega), cpR_no _ (by omega), k3]
              have hF : Rel (st1 d) (up2 Q 111 3 (nrow d + 1)) := by
                have e := Rel_cur (Rel_cg (σ' := Q) (by rw [hQ]; exact sc_111 _ _) hRz) (x := nrow d + 1) (by omega)
                rw [rwV_cur, vR_cur] at e
                rw [st1_1 (by omega), if_pos (by omega)]
                exact e
              have hG : GM σ (up2 Q 111 3 (nrow d + 1)) := by
                have g1 : GM K (rzM K (nrow d) (d 2 0 - 1) (rzV (up2 d 10 1 (nrow d)) (nrow d) (d 2 0 - 1))) := GM_m (fun p hp => rz_r _ _ _ _ hp)
                have g2 := GM_sc (rzM K (nrow d) (d 2 0 - 1) (rzV (up2 d 10 1 (nrow d)) (nrow d) (d 2 0 - 1))) qμ1
                rw [← hQ] at g2
                exact (hGK.tr (g1.tr g2)).tr (GM_m (fun p hp => up2_off _ hp))
              refine r_iinc dX6_goesOn_81 (by rfl) (Nat.le_of_ble_eq_true rfl) (L' := [_, _, _, _]) (by rfl) ?_
              refine r_aload_n dX6_goesOn_84 rfl (by rfl) ?_
              refine r_get_r kX6_7 dX6_goesOn_85 KD_110 (RHO_110_1 _) ?_
              refine r_iconst dX6_goesOn_88 ?_
              refine r_dup2 dX6_goesOn_89 rfl rfl ?_
              refine r_iaload (k := 3) dX6_goesOn_90 KD_111 (by omega) (by omega) (by decide) ?_
              rw [hv3]
              refine r_iconst dX6_goesOn_91 ?_
              refine r_iadd dX6_goesOn_92 ?_
              refine r_iastore (k := 3) dX6_goesOn_93 KD_111 (by omega) (by omega) (by decide) ?_
              refine r_iinc dX6_goesOn_94 (by rfl) (Nat.le_of_ble_eq_true rfl) (L' := [_, _, _, _]) (by rfl) ?_
              refine r_goto (tgt := 4) dX6_goesOn_97 (by decide) ?_
              exact ih _ _ _ (k + 1) hF hG (by omega) (by omega) hst.symm (by rw [st1_rw (by omega)]; first | (rw [if_pos (by omega)]; omega) | (rw [if_neg (by omega)]; omega)) (by omega)
          · refine r_aload_n dX6_goesOn_38 rfl (by rfl) ?_
            refine r_get_r kX6_7 dX6_goesOn_39 KD_110 (RHO_110_1 _) ?_
            refine r_iconst dX6_goesOn_42 ?_
            refine r_iaload (k := 3) dX6_goesOn_43 KD_111 (by omega) (by omega) (by decide) ?_
            rw [nd.2.2.2.1]
            refine r_goto (tgt := 48) dX6_goesOn_44 (by decide) ?_
            refine WP.top (b := nrow d) (by rw [← hnw]; first | (rw [if_pos (by omega)]; done) | (rw [if_neg (by omega)]; done)) ?_
            have hnq := hnr (by omega)
            refine r_iastore (k := 3) dX6_goesOn_48 KD_111 (by omega) (by omega) (by decide) ?_
            obtain ⟨K, hKe⟩ : ∃ K, K = up2 μ 111 3 (nrow d) := ⟨_, rfl⟩
            rw [← hKe]
            have hK : Rel (up2 d 10 1 (nrow d)) K := by rw [hKe]; exact Rel_cur hd (by omega)
            have hKJ := hK.mj
            have kn := hK.nm
            have k3 : K 111 3 = nrow d := by rw [hKe, up2_at]
            have ko : oM K (nrow d) 0 = d 11 (nrow d).toNat := by
              have e := (rs_eq hK (r := nrow d) (by omega) (by rw [up2_no _ (by omega)]; omega)).1
              rw [up2_no _ (by omega)] at e
              exact e
            have k2 : K 111 0 = d 2 0 := by rw [kn.1, up2_no _ (by omega)]
            have hrb := hd.ro (nrow d).toNat (by omega)
            have hrs := hd.ci.rs (nrow d).toNat
            have hGK : GM σ K := hg.tr (GM_m (fun p hp => by rw [hKe, up2_off _ hp]))
            refine r_aload_n dX6_goesOn_49 rfl (by rfl) ?_
            refine r_aload_n dX6_goesOn_50 rfl (by rfl) ?_
            refine r_get_r kX6_7 dX6_goesOn_51 KD_110 (RHO_110_1 _) ?_
            refine r_iconst dX6_goesOn_54 ?_
            refine r_iaload (k := 3) dX6_goesOn_55 KD_111 (by omega) (by omega) (by decide) ?_
            rw [k3]
            refine r_iconst dX6_goesOn_56 ?_
            refine r_callV2 (ct_X6_rowOf _ _ (by first | exact hd | exact hK | exact K3 | exact hKJ | omega | (unfold inR; omega)) (by first | exact hd | exact hK | exact K3 | exact hKJ | omega | (unfold inR; omega))) fX6_rowOf qX6_108 dX6_goesOn_57 KD_110 (by decide) ⟨Nat.zero_le _, Nat.zero_le _⟩ (Nat.le_of_ble_eq_true rfl) ?_
            rw [ko]
            refine r_aload_n dX6_goesOn_60 rfl (by rfl) ?_
            refine r_callV0 ct_X6_newest fX6_newest qX6_44 dX6_goesOn_61 KD_110 (by decide) ⟨Nat.zero_le _, Nat.zero_le _⟩ (Nat.le_of_ble_eq_true rfl) ?_
            rw [k2]
            refine r_icmp_ge (tgt := 84) dX6_goesOn_64 (by decide) (by unfold inR; omega) (by unfold inR; omega) (fun hb => ?_) (fun hb => ?_)
            · have hv3 := k3
              have hF : Rel (st1 d) (up2 K 111 3 (nrow d + 1)) := by
                have e := Rel_cur hK (x := nrow d + 1) (by omega)
                rw [cur_cur] at e
                rw [st1_1 (by omega), if_neg (by omega)]
                exact e
              have hG : GM σ (up2 K 111 3 (nrow d + 1)) := hGK.tr (GM_m (fun p hp => up2_off _ hp))
              refine r_aload_n dX6_goesOn_84 rfl (by rfl) ?_
              refine r_get_r kX6_7 dX6_goesOn_85 KD_110 (RHO_110_1 _) ?_
              refine r_iconst dX6_goesOn_88 ?_
              refine r_dup2 dX6_goesOn_89 rfl rfl ?_
              refine r_iaload (k := 3) dX6_goesOn_90 KD_111 (by omega) (by omega) (by decide) ?_
              rw [hv3]
              refine r_iconst dX6_goesOn_91 ?_
              refine r_iadd dX6_goesOn_92 ?_
              refine r_iastore (k := 3) dX6_goesOn_93 KD_111 (by omega) (by omega) (by decide) ?_
              refine r_iinc dX6_goesOn_94 (by rfl) (Nat.le_of_ble_eq_true rfl) (L' := [_, _, _, _]) (by rfl) ?_
              refine r_goto (tgt := 4) dX6_goesOn_97 (by decide) ?_
              exact ih _ _ _ (k + 1) hF hG (by omega) (by omega) hst.symm (by rw [st1_rw (by omega)]; first | (rw [if_pos (by omega)]; omega) | (rw [if_neg (by omega)]; omega)) (by omega)
            · refine r_aload_n dX6_goesOn_67 rfl (by rfl) ?_
              refine r_aload_n dX6_goesOn_68 rfl (by rfl) ?_
              refine r_get_r kX6_7 dX6_goesOn_69 KD_110 (RHO_110_1 _) ?_
              refine r_iconst dX6_goesOn_72 ?_
              refine r_iaload (k := 3) dX6_goesOn_73 KD_111 (by omega) (by omega) (by decide) ?_
              rw [k3]
              refine r_aload_n dX6_goesOn_74 rfl (by rfl) ?_
              refine r_callV0 ct_X6_newest fX6_newest qX6_44 dX6_goesOn_75 KD_110 (by decide) ⟨Nat.zero_le _, Nat.zero_le _⟩ (Nat.le_of_ble_eq_true rfl) ?_
              rw [k2]
              refine r_callG2 (ct_X6_rewritesR (up2 d 10 1 (nrow d)) hK (nrow d) (d 2 0 - 1) (by omega) (by rw [up2_no _ (by omega)]; omega) (by omega) (by rw [up2_no _ (by omega)]; omega)) fX6_rewrites qX6_139 dX6_goesOn_78 KD_110 (by decide) ⟨Nat.zero_le _, Nat.zero_le _⟩ (Nat.le_of_ble_eq_true rfl) (fun μ1 hμ1 => ?_)
              obtain ⟨qμ1, pμ1, rfl⟩ := hμ1
              have hRz := Rel_rz hK (r := nrow d) (s := d 2 0 - 1) (by omega) (by rw [up2_no _ (by omega)]; omega) (by omega) (by rw [up2_no _ (by omega)]; omega)
              obtain ⟨Q, hQ⟩ : ∃ Q, Q = scM (rzM K (nrow d) (d 2 0 - 1) (rzV (up2 d 10 1 (nrow d)) (nrow d) (d 2 0 - 1))) qμ1 := ⟨_, rfl⟩
              rw [← hQ]
              have hv3 : Q 111 3 = nrow d := by
                rw [hQ, sc_111]
                unfold rzM
                rw [up2_el _ _ _ (by omega), lo_o _ (by omega), lo_o _ (by omega), cpR_no _ (by omega), k3]
              have hF : Rel (st1 d) (up2 Q 111 3 (nrow d + 1)) := by
                have e := Rel_cur (Rel_cg (σ' := Q) (by rw [hQ]; exact sc_111 _ _) hRz) (x := nrow d + 1) (by omega)
                rw [rwV_cur, vR_cur] at e
                rw [st1_1 (by omega), if_pos (by omega)]
                exact e
              have hG : GM σ (up2 Q 111 3 (nrow d + 1)) := by
                have g1 : GM K (rzM K (nrow d) (d 2 0 - 1) (rzV (up2 d 10 1 (nrow d)) (nrow d) (d 2 0 - 1))) := GM_m (fun p hp => rz_r _ _ _ _ hp)
                have g2 := GM_sc (rzM K (nrow d) (d 2 0 - 1) (rzV (up2 d 10 1 (nrow d)) (nrow d) (d 2 0 - 1))) qμ1
                rw [← hQ] at g2
                exact (hGK.tr (g1.tr g2)).tr (GM_m (fun p hp => up2_off _ hp))
              refine r_iinc dX6_goesOn_81 (by rfl) (Nat.le_of_ble_eq_true rfl) (L' := [_, _, _, _]) (by rfl) ?_
              refine r_aload_n dX6_goesOn_84 rfl (by rfl) ?_
              refine r_get_r kX6_7 dX6_goesOn_85 KD_110 (RHO_110_1 _) ?_
              refine r_iconst dX6_goesOn_88 ?_
              refine r_dup2 dX6_goesOn_89 rfl rfl ?_
              refine r_iaload (k := 3) dX6_goesOn_90 KD_111 (by omega) (by omega) (by decide) ?_
              rw [hv3]
              refine r_iconst dX6_goesOn_91 ?_
              refine r_iadd dX6_goesOn_92 ?_
              refine r_iastore (k := 3) dX6_goesOn_93 KD_111 (by omega) (by omega) (by decide) ?_
              refine r_iinc dX6_goesOn_94 (by rfl) (Nat.le_of_ble_eq_true rfl) (L' := [_, _, _, _]) (by rfl) ?_
              refine r_goto (tgt := 4) dX6_goesOn_97 (by decide) ?_
              exact ih _ _ _ (k + 1) hF hG (by omega) (by omega) hst.symm (by rw [st1_rw (by omega)]; first | (rw [if_pos (by omega)]; omega) | (rw [if_neg (by omega)]; omega)) (by omega)
  refine r_iconst dX6_goesOn_0 ?_
  refine r_istore_n dX6_goesOn_1 rfl (Nat.le_of_ble_eq_true rfl) (L' := [_, _, _, _]) (by rfl) ?_
  refine r_iconst dX6_goesOn_2 ?_
  refine r_istore_n dX6_goesOn_3 rfl (Nat.le_of_ble_eq_true rfl) (L' := [_, _, _, _]) (by rfl) ?_
  exact cut_4 13 σ c 0 0 hR (GM.rf σ) (by omega) (by omega) rfl (by omega) (by omega)

set_option maxRecDepth 100000 in
set_option maxHeartbeats 4000000 in
theorem ct_X6_goOnR {l : Launch} {G : GG} {π : Nat → Option Nat} {σ τ : ST} (c : ST) (hR : Rel c σ) (hn0 : 0 ≤ σ 110 3) (hn1 : σ 110 3 ≤ 6) (m : Int) (hm : inR m) : Ct l G mX6_goOn (6, 0, 0) [.ref 110, .int (iI m)] 117 KD σ τ (RHO π) (KG (some (.int (iI (if er_goOn c m = 0 then itS c m.toNat 10 2 - c 10 2 else 0)))) (MU σ (cE 1 9 9 (er_goOn c m)) (Rel (itS c m.toNat))) τ π) := by
  have hn := hR.nm
  have hsz := hR.ci.sz
  have hrw := hR.ci.ro
  have hcu := hR.ci.cu
  have hmk := hR.ci.mk
  have z1 : up2 σ 110 0 0 111 = σ 111 := up2_off _ (by decide)
  have R1 : Rel c (up2 σ 110 0 0) := Rel_cg z1 hR
  have n1 := R1.nm
  have J1 := R1.mj
  have R2 : Rel c (svM (up2 σ 110 0 0)) := Rel_sv hR
  have J2 := R2.mj
  have n2 := R2.nm
  have b3 : up2 σ 110 0 0 110 3 = σ 110 3 := up2_el _ _ _ (by omega)
  have rm := hm
  unfold inR at rm
  refine ct_intro (own := "ShapedRowsModel") rfl (by decide +kernel) (Nat.le_of_ble_eq_true rfl) (L := _) rfl ?_
  refine r_aload_n dX6_goOn_0 rfl (by rfl) ?_
  refine r_iconst dX6_goOn_1 ?_
  refine r_put_i kX6_25 dX6_goOn_2 KD_110 ?_
  refine r_iload_n dX6_goOn_5 rfl (by rfl) ?_
  refine r_iconst dX6_goOn_6 ?_
  refine r_bipush dX6_goOn_7 (by decide) ?_
  refine r_callS3 (ct_X6_in _ (by first | exact R1 | exact J1 | exact R2 | exact hm | omega | (unfold inR; omega)) _ (by first | exact R1 | exact J1 | exact R2 | exact hm | omega | (unfold inR; omega)) _ (by first | exact R1 | exact J1 | exact R2 | exact hm | omega | (unfold inR; omega))) fX6_in qX6_32 dX6_goOn_9 (by decide) ⟨Nat.zero_le _, Nat.zero_le _⟩ (Nat.le_of_ble_eq_true rfl) ?_
  refine r_ifne_b (tgt := 21) dX6_goOn_12 (by decide) (fun c_1 => ?_) (fun c_1 => ?_)
  · refine r_aload_n dX6_goOn_21 rfl (by rfl) ?_
    refine r_callV0 (ct_X6_saves (by first | exact R1 | exact J1 | exact R2 | exact hm | omega | (unfold inR; omega)) (by first | exact R1 | exact J1 | exact R2 | exact hm | omega | (unfold inR; omega))) fX6_saves qX6_72 dX6_goOn_22 KD_110 (by decide) ⟨Nat.zero_le _, Nat.zero_le _⟩ (Nat.le_of_ble_eq_true rfl) ?_
    have er : er_goOn c m = 0 := by
      unfold er_goOn
      (repeat' split) <;> omega
    have e0 : cE 1 9 9 (er_goOn c m) = 0 := by rw [er]; rfl
    refine r_aload_n dX6_goOn_25 rfl (by rfl) ?_
    refine r_iload_n dX6_goOn_26 rfl (by rfl) ?_
    refine r_callG1 (ct_X6_goesOnR _ (by first | exact R1 | exact J1 | exact R2 | exact hm | omega | (unfold inR; omega)) _ (by first | exact R1 | exact J1 | exact R2 | exact hm | omega | (unfold inR; omega)) (by first | exact R1 | exact J1 | exact R2 | exact hm | omega | (unfold inR; omega))) fX6_goesOn qX6_142 dX6_goOn_27 KD_110 (by decide) ⟨Nat.zero_le _, Nat.zero_le _⟩ (Nat.le_of_ble_eq_true rfl) (fun μ1 hμ1 => ?_)
    have hend : MU σ (cE 1 9 9 (er_goOn c m)) (Rel (itS c m.toNat)) μ1 := MU_sc e0 hμ1.2.1 hμ1.2.2 hμ1.1
    exact r_ret_ig dX6_goOn_30 rfl ⟨Nat.zero_le _, Nat.zero_le _⟩ (by first | (rw [er, if_neg (by decide)]; done) | (rw [er, if_pos rfl]; done)) (by first | exact MU_no (by rw [e0]; decide) (LK_f e0) | exact hend)
  · refine r_aload_n dX6_goOn_15 rfl (by rfl) ?_
    refine r_iconst dX6_goOn_16 ?_
    refine r_callV1 (ct_X6_fails _) fX6_fails qX6_120 dX6_goOn_17 KD_110 (by decide) ⟨Nat.zero_le _, Nat.zero_le _⟩ (Nat.le_of_ble_eq_true rfl) ?_
    have er : er_goOn c m = 1 := by
      unfold er_goOn
      (repeat' split) <;> omega
    have e0 : cE 1 9 9 (er_goOn c m) = 1 := by rw [er]; rfl
    exact r_ret_ig dX6_goOn_20 rfl ⟨Nat.zero_le _, Nat.zero_le _⟩ (by first | (rw [er, if_neg (by decide)]; done) | (rw [er, if_pos rfl]; done)) (by first | exact MU_no (by rw [e0]; decide) (LK_f e0) | exact hend)
