/-! take and pump keep the tie -/
theorem iv_cp {k : Nat} {S M : zS} (I : IV k S M) (hu : ¬ S 22 2 = (-1)) : IV k (if zallS S then sp_cc S else S) (mo_cp M) := by
  have hW := I.W
  have hW4 := (zOK.w I.1).2.2
  have e21 := I.sh 21 (by decide)
  have e2 := I.s22 2 (by decide)
  have d5 := I.2.2.2.2.2.2.2.1
  have h : zallU M ↔ zallS S := by
    unfold zallU zallS
    rw [hW, e21, e2]
    exact ⟨fun h w hw z => hu ((h w hw).symm.trans z), fun h w hw => (d5 w (by omega)).elim (fun z => absurd z (h w hw)) (fun z => z.2.1 hu)⟩
  unfold mo_cp
  by_cases ha : zallS S
  · rw [if_pos ha, if_pos (h.mpr ha)]
    exact iv_cc I hu ha
  · rw [if_neg ha, if_neg (fun z => ha (h.mp z))]
    exact I
theorem iv_tb {k : Nat} {S M : zS} (I : IV k S M) {p w : Nat} (hp : p < 4) (hw : w < zn S 22 0) (hu : ¬ S 22 2 = (-1)) (hs : S 21 w = (-1)) (h4 : S 4 p = nI 1) (hz : zno S (4 * p + w)) : IV k (sp_tb S p w) (mo_al (sp_blk M p w) w) := by
  have B := iv_blk I hp hw hu hs h4 hz
  have hw4 : w < 4 := by have := (zOK.w I.1).2.2; omega
  have g : ∀ j, j ≠ 8 → sp_blk S p w j = S j := fun j hj => by funext i; rw [blk_at, if_neg (fun z => hj z.1)]
  have e8 := B.sh 8 (by decide)
  unfold sp_tb mo_al
  by_cases h : zallB (sp_blk S p w) w
  · rw [if_pos h, if_pos (show zallB (sp_blk M p w) w from fun q hq => by rw [e8]; exact h q hq)]
    unfold sp_seal
    refine iv_cp (iv_seal1 B ?_ ?_ ?_ h) ?_
    · unfold zn; rw [g 22 (by decide)]; exact hw
    · rw [g 22 (by decide)]; exact hu
    · rw [g 21 (by decide)]; exact hs
    · rw [seal1_g _ hw4 22 (by decide), g 22 (by decide)]; exact hu
  · rw [if_neg h, if_neg (fun z => h (fun q hq => by rw [← e8]; exact z q hq))]
    exact B
theorem iv_take {k : Nat} {S M : zS} (I : IV k S M) {p w : Nat} (hp : p < 4) (hw : w < zn S 22 0) (hc : zcanT S p w) : IV k (sp_tf S p w) (mo_tf M p w) ∧ sp_tfr S p w = mo_tfr M p w := by
  have hw4 : w < 4 := by have := (zOK.w I.1).2.2; omega
  have e6 := congrFun (I.sh 6 (by decide)) (8 * (4 * p + w))
  have z6 := I.zn 6 (8 * (4 * p + w)) (by decide)
  have e2 := I.s22 2 (by decide)
  have hO := I.1
  have d9 := I.2.2.2.2.2.2.2.2.2.2.2.1
  have R := iv_rem I hc.1 (show 4 * p + w < 16 by omega)
  have J : IV k (sp_tf S p w) (mo_tf M p w) := by
    unfold sp_tf mo_tf
    rw [e6, e2, z6]
    by_cases h0 : 0 < S 6 (8 * (4 * p + w))
    · rw [if_pos h0, if_pos h0]
      exact iv_te R.1 _ _
    · rw [if_neg h0, if_neg h0]
      by_cases h1 : -(S 6 (8 * (4 * p + w))) = S 22 2
      · rw [if_pos h1, if_pos h1]
        have hu : ¬ S 22 2 = (-1) := fun z => by
          rw [z] at h1
          have h3 : S 6 (8 * (4 * p + w)) = 1 := Int32.neg_inj.mp h1
          rw [h3] at h0
          exact absurd (by decide) h0
        have hx : S 6 (8 * (4 * p + w)) = -(S 22 2) := by rw [← h1, Int32.neg_neg]
        have g : ∀ j, j ≠ 6 → j ≠ 7 → sp_rem S (4 * p + w) j = S j := fun j j1 j2 => by funext i; rw [rem_at]; grind
        have nz : ¬ zno S (4 * p + w) := fun z => z 0 hc.1 hx
        obtain ⟨a1, a2, a3, a4⟩ := d9 hu (4 * p + w) (by omega)
        rw [show (4 * p + w) / 4 = p by omega] at a2 a4
        rw [show (4 * p + w) % 4 = w by omega] at a4
        refine iv_tb R.1 hp ?_ ?_ ?_ ?_ (R.2 hu hx)
        · unfold zn; rw [g 22 (by decide) (by decide)]; exact hw
        · rw [g 22 (by decide) (by decide)]; exact hu
        · rw [g 21 (by decide) (by decide)]
          exact Decidable.byContradiction (fun z => nz (a4 z).1)
        · rw [g 4 (by decide) (by decide)]
          exact (hO.b4 p).elim (fun z => absurd (a2 z) nz) id
      · rw [if_neg h1, if_neg h1]
        exact R.1
  refine ⟨J, ?_⟩
  unfold sp_tfr mo_tfr
  rw [e6, z6, J.sh 9 (by decide)]
/-! pump, step by step -/
theorem ps_step (M : zS) (t i : Nat) (hi : i < mo_L M) : mo_ps M (t * mo_L M + i + 1) = mo_p2 (mo_p1 (mo_ps M (t * mo_L M + i)) i) i ∧ mo_psc M (t * mo_L M + i + 1) = mo_psc M (t * mo_L M + i) + mo_c1 (mo_ps M (t * mo_L M + i)) i + mo_c2 (mo_p1 (mo_ps M (t * mo_L M + i)) i) i := by
  have h : (t * mo_L M + i) % mo_L M = i := by rw [Nat.mul_add_mod', Nat.mod_eq_of_lt hi]
  refine ⟨?_, ?_⟩
  · show mo_p2 (mo_p1 (mo_ps M (t * mo_L M + i)) ((t * mo_L M + i) % mo_L M)) ((t * mo_L M + i) % mo_L M) = _
    rw [h]
  · show mo_psc M (t * mo_L M + i) + mo_c1 (mo_ps M (t * mo_L M + i)) ((t * mo_L M + i) % mo_L M) + mo_c2 (mo_p1 (mo_ps M (t * mo_L M + i)) ((t * mo_L M + i) % mo_L M)) ((t * mo_L M + i) % mo_L M) = _
    rw [h]
theorem ps_r (T : zS) {i : Nat} (hi : i < 4) : mo_p2 (mo_p1 T i) i = (if zcanR T i then sp_read T i else T) ∧ mo_c1 T i + mo_c2 (mo_p1 T i) i = if zcanR T i then 1 else 0 := by
  have h0 : i / 4 = 0 := by omega
  have h1 : ¬ (1 ≤ i / 4 ∧ zcanT (mo_p1 T i) (i % 4) (i / 4 - 1)) := fun q => by
    have := q.1
    omega
  have e2 : mo_p2 (mo_p1 T i) i = mo_p1 T i := by unfold mo_p2; rw [if_neg h1]
  have c2 : mo_c2 (mo_p1 T i) i = 0 := by unfold mo_c2; rw [if_neg h1]
  rw [e2, c2]
  unfold mo_p1 mo_c1
  by_cases h : zcanR T i
  · have q : i / 4 = 0 ∧ zcanR T i := ⟨h0, h⟩
    rw [if_pos q, if_pos q, if_pos h, if_pos h]
    exact ⟨rfl, rfl⟩
  · have q : ¬ (i / 4 = 0 ∧ zcanR T i) := fun z => h z.2
    rw [if_neg q, if_neg q, if_neg h, if_neg h]
    exact ⟨rfl, rfl⟩
theorem ps_t (T : zS) {i p w : Nat} (h1 : i / 4 = w + 1) (h2 : i % 4 = p) : mo_p2 (mo_p1 T i) i = (if zcanT T p w then mo_tf T p w else T) ∧ mo_c1 T i + mo_c2 (mo_p1 T i) i = if zcanT T p w then 1 else 0 := by
  have h0 : ¬ (i / 4 = 0 ∧ zcanR T i) := fun q => by
    have := q.1
    omega
  have e1 : mo_p1 T i = T := by unfold mo_p1; rw [if_neg h0]
  have c1 : mo_c1 T i = 0 := by unfold mo_c1; rw [if_neg h0]
  rw [e1, c1, Nat.zero_add]
  unfold mo_p2 mo_c2
  rw [h1, h2, Nat.add_sub_cancel]
  have h3 : 1 ≤ w + 1 := by omega
  by_cases h : zcanT T p w
  · have q : 1 ≤ w + 1 ∧ zcanT T p w := ⟨h3, h⟩
    rw [if_pos q, if_pos q, if_pos h, if_pos h]
    exact ⟨rfl, rfl⟩
  · have q : ¬ (1 ≤ w + 1 ∧ zcanT T p w) := fun z => h z.2
    rw [if_neg q, if_neg q, if_neg h, if_neg h]
    exact ⟨rfl, rfl⟩
theorem iv_rr {k t : Nat} {A M : zS} (I : IV k A (mo_ps M (t * mo_L M))) : ∀ p, p ≤ 4 → IV k (sp_rr A p) (mo_ps M (t * mo_L M + p)) ∧ mo_psc M (t * mo_L M + p) = mo_psc M (t * mo_L M) + sp_rrc A p
  | 0, _ => ⟨I, rfl⟩
  | p + 1, hp => by
    obtain ⟨J, hc⟩ := iv_rr I p (by omega)
    have s := ps_step M t p (show p < 4 * (zn M 22 0 + 1) by omega)
    have r := ps_r (mo_ps M (t * mo_L M + p)) (show p < 4 by omega)
    have e := J.canR p
    refine ⟨?_, ?_⟩
    · show IV k (if zcanR (sp_rr A p) p then sp_read (sp_rr A p) p else sp_rr A p) (mo_ps M (t * mo_L M + p + 1))
      rw [s.1, r.1]
      by_cases h : zcanR (sp_rr A p) p
      · rw [if_pos h, if_pos (e.mpr h)]
        exact iv_read J (by omega) h
      · rw [if_neg h, if_neg (fun z => h (e.mp z))]
        exact J
    · show mo_psc M (t * mo_L M + p + 1) = mo_psc M (t * mo_L M) + (if zcanR (sp_rr A p) p then sp_rrc A p + 1 else sp_rrc A p)
      rw [s.2, Nat.add_assoc, r.2, hc]
      by_cases h : zcanR (sp_rr A p) p
      · rw [if_pos h, if_pos (e.mpr h), Nat.add_assoc]
      · rw [if_neg h, if_neg (fun z => h (e.mp z)), Nat.add_zero]
theorem iv_tw {k t w : Nat} {A M : zS} (hw : w < zn M 22 0) (I : IV k A (mo_ps M (t * mo_L M + 4 * (w + 1)))) : ∀ p, p ≤ 4 → IV k (sp_tw A w p) (mo_ps M (t * mo_L M + 4 * (w + 1) + p)) ∧ mo_psc M (t * mo_L M + 4 * (w + 1) + p) = mo_psc M (t * mo_L M + 4 * (w + 1)) + sp_twc A w p
  | 0, _ => ⟨I, rfl⟩
  | p + 1, hp => by
    obtain ⟨J, hc⟩ := iv_tw hw I p (by omega)
    have s := ps_step M t (4 * (w + 1) + p) (show 4 * (w + 1) + p < 4 * (zn M 22 0 + 1) by omega)
    rw [← Nat.add_assoc (t * mo_L M)] at s
    have r := ps_t (mo_ps M (t * mo_L M + 4 * (w + 1) + p)) (i := 4 * (w + 1) + p) (p := p) (w := w) (by omega) (by omega)
    have e := J.canT p w
    have hw2 : w < zn (sp_tw A w p) 22 0 := by rw [← J.W, zn_ps]; exact hw
    refine ⟨?_, ?_⟩
    · show IV k (if zcanT (sp_tw A w p) p w then sp_tf (sp_tw A w p) p w else sp_tw A w p) (mo_ps M (t * mo_L M + 4 * (w + 1) + p + 1))
      rw [s.1, r.1]
      by_cases h : zcanT (sp_tw A w p) p w
      · rw [if_pos h, if_pos (e.mpr h)]
        exact (iv_take J (by omega) hw2 h).1
      · rw [if_neg h, if_neg (fun z => h (e.mp z))]
        exact J
    · show mo_psc M (t * mo_L M + 4 * (w + 1) + p + 1) = mo_psc M (t * mo_L M + 4 * (w + 1)) + (if zcanT (sp_tw A w p) p w then sp_twc A w p + 1 else sp_twc A w p)
      rw [s.2, Nat.add_assoc, r.2, hc]
      by_cases h : zcanT (sp_tw A w p) p w
      · rw [if_pos h, if_pos (e.mpr h), Nat.add_assoc]
      · rw [if_neg h, if_neg (fun z => h (e.mp z)), Nat.add_zero]
theorem iv_tt {k t : Nat} {A M : zS} (I : IV k A (mo_ps M (t * mo_L M + 4))) : ∀ w, w ≤ zn M 22 0 → IV k (sp_tt A w) (mo_ps M (t * mo_L M + 4 * (w + 1))) ∧ mo_psc M (t * mo_L M + 4 * (w + 1)) = mo_psc M (t * mo_L M + 4) + sp_ttc A w
  | 0, _ => ⟨I, rfl⟩
  | w + 1, hw => by
    obtain ⟨J, hc⟩ := iv_tt I w (by omega)
    obtain ⟨K, hd⟩ := iv_tw (show w < zn M 22 0 by omega) J 4 (Nat.le_refl 4)
    rw [show t * mo_L M + 4 * (w + 1 + 1) = t * mo_L M + 4 * (w + 1) + 4 from rfl]
    refine ⟨K, ?_⟩
    rw [hd, hc, Nat.add_assoc]
    rfl
theorem iv_rd {k t : Nat} {S M : zS} (I : IV k S (mo_ps M (t * mo_L M))) : IV k (sp_rd S) (mo_ps M ((t + 1) * mo_L M)) ∧ mo_psc M ((t + 1) * mo_L M) = mo_psc M (t * mo_L M) + sp_rdc S := by
  obtain ⟨J, hc⟩ := iv_rr I 4 (Nat.le_refl 4)
  have hW : zn (sp_rr S 4) 22 0 = zn M 22 0 := by rw [← J.W, zn_ps]
  obtain ⟨K, hd⟩ := iv_tt J (zn M 22 0) (Nat.le_refl _)
  have e : (t + 1) * mo_L M = t * mo_L M + 4 * (zn M 22 0 + 1) := Nat.succ_mul t _
  unfold sp_rd sp_rdc
  rw [e, hW]
  refine ⟨K, ?_⟩
  rw [hd, hc, Nat.add_assoc]
theorem iv_pm {k : Nat} {S M : zS} (I : IV k S M) : ∀ t, IV k (sp_pm S t) (mo_ps M (t * mo_L M)) ∧ sp_pmc S t = mo_psc M (t * mo_L M)
  | 0 => by
    rw [Nat.zero_mul]
    exact ⟨I, rfl⟩
  | t + 1 => by
    obtain ⟨J, h⟩ := iv_pm I t
    obtain ⟨K, g⟩ := iv_rd J
    refine ⟨K, ?_⟩
    rw [g, ← h]
    rfl
theorem iv_pump {k : Nat} {S M : zS} (I : IV k S M) (t : Nat) : IV k (sp_pm S t) (mo_ps M (t * 4 * (zn M 22 0 + 1))) ∧ sp_pmc S t = mo_psc M (t * 4 * (zn M 22 0 + 1)) := by
  rw [Nat.mul_assoc]
  exact iv_pm I t
