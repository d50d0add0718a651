theorem sa_at {S : zS} (hO : zOK S) (n j i : Nat) : sp_sa S n j i = if j = 22 ∧ i = 0 then nI n else if j = 22 ∧ i = 2 then (-1) else if j = 21 ∧ i < zn S 22 0 then (-1) else if (j = 7 ∨ j = 8) ∧ i < 16 then nI 0 else if j = 2 ∧ i < 4 then S 3 i else if j = 9 ∧ i < 32 then S 17 i else if j = 10 ∧ i < 32 then S 18 i else if (j = 11 ∨ j = 12 ∨ j = 13 ∨ j = 14) ∧ i < 32 then nI 0 else if i < 32 ∧ zrdy S (zown (zn S 22 0) i) then (if j = 19 then S 19 i + S 13 i else if j = 20 then S 20 i + S 14 i else S j i) else S j i := by
  have hW := (zOK.w hO).2
  have ho := zOK.own hO i
  unfold sp_sa sp_sa5 sp_sa4 sp_sa3
  simp only [zU_at, up_at, tca_at, cp_at, z_at, tz_at, sa2_at, ssa1_at S _ _ (zn S 22 0) hW.2]
  clear hO
  grind (splits := 80)
set_option maxHeartbeats 1000000 in
/-- all is started again -/
theorem vI_sa {k : Nat} {S : zS} (hO : zOK S) (D : zDeep k S) (I : vI S) (hz0 : ∀ key, key < 32 → S 21 (zown (zn S 22 0) key) = (-1) → S 13 key = nI 0 ∧ S 14 key = nI 0) (n : Nat) : vI (sp_sa S n) := by
  obtain ⟨hE, hC, hT, hB⟩ := I
  have hW := (zOK.w hO).2
  obtain ⟨-, -, -, d4, d5, -⟩ := D
  have at1 := sa_at hO n
  generalize sp_sa S n = T at at1 ⊢
  have tj : ∀ j, j = 0 ∨ j = 1 ∨ j = 3 ∨ j = 5 → T j = S j := fun j h => by
    funext i
    rw [at1, if_neg (by omega), if_neg (by omega), if_neg (by omega), if_neg (by omega), if_neg (by omega), if_neg (by omega), if_neg (by omega), if_neg (by omega)]
    split
    · rw [if_neg (by omega), if_neg (by omega)]
    · rfl
  have n1 := tj 1 (by omega)
  have z1 : zn T 1 = zn S 1 := by funext i; unfold zn; rw [n1]
  have z0 : zn T 0 = zn S 0 := by funext i; unfold zn; rw [tj 0 (by omega)]
  have z3 : zn T 3 = zn S 3 := by funext i; unfold zn; rw [tj 3 (by omega)]
  have z5 : zn T 5 = zn S 5 := by funext i; unfold zn; rw [tj 5 (by omega)]
  have z2 : ∀ p, p < 4 → zn T 2 p = zn S 3 p := fun p hp => congrArg Int32.toNatClampNeg (by rw [at1, if_neg (by omega), if_neg (by omega), if_neg (by omega), if_neg (by omega), if_pos ⟨rfl, hp⟩])
  have z7 : ∀ c, c < 16 → zn T 7 c = 0 := fun c hc => (z_zero (by rw [at1, if_neg (by omega), if_neg (by omega), if_neg (by omega), if_pos ⟨Or.inl rfl, hc⟩])).2
  have hu2 : T 22 2 = (-1) := by rw [at1, if_neg (by omega), if_pos ⟨rfl, rfl⟩]
  refine ⟨fun q hq => ?_, fun c hc => ⟨fun i hi => ?_, fun _ => 0, fun i hi _ => ?_⟩, fun key hk => ?_, fun z => absurd hu2 z⟩
  · obtain ⟨a1, a2, a3, a4⟩ := hE q hq
    rw [z0, z1, z3, z5, z2 q hq]
    exact ⟨a2, a2, a3, a4⟩
  · rw [z7 c hc] at hi
    exact absurd hi (Nat.not_lt_zero _)
  · rw [z7 c hc] at hi
    exact absurd hi (Nat.not_lt_zero _)
  · have hz := vT_z hO hE (hT key hk)
    obtain ⟨a1, a2, a3, a4, a5, a6, a7⟩ := hT key hk
    have ho := hO.own key
    have r9 : T 9 key = S 17 key := by rw [at1, if_neg (by omega), if_neg (by omega), if_neg (by omega), if_neg (by omega), if_neg (by omega), if_pos ⟨rfl, hk⟩]
    have r10 : T 10 key = S 18 key := by rw [at1, if_neg (by omega), if_neg (by omega), if_neg (by omega), if_neg (by omega), if_neg (by omega), if_neg (by omega), if_pos ⟨rfl, hk⟩]
    have r11 : ∀ j, j = 11 ∨ j = 12 ∨ j = 13 ∨ j = 14 → T j key = nI 0 := fun j h => by rw [at1, if_neg (by omega), if_neg (by omega), if_neg (by omega), if_neg (by omega), if_neg (by omega), if_neg (by omega), if_neg (by omega), if_pos ⟨h, hk⟩]
    have rj : ∀ j, 15 ≤ j → j ≤ 18 → T j key = S j key := fun j h1 h2 => by
      rw [at1, if_neg (by omega), if_neg (by omega), if_neg (by omega), if_neg (by omega), if_neg (by omega), if_neg (by omega), if_neg (by omega), if_neg (by omega)]
      split
      · rw [if_neg (by omega), if_neg (by omega)]
      · rfl
    have rs : vN T key ∧ zn T 19 key = zn S 17 key ∧ zn T 20 key = zn S 18 key ∧ vL (zn T 19 key) (zn T 20 key) := by
      have h17 : ∀ j, 9 ≤ j → j ≤ 18 → T j key = nI (zn T j key) := fun j j1 j2 => by
        rcases (show j = 9 ∨ j = 10 ∨ (j = 11 ∨ j = 12 ∨ j = 13 ∨ j = 14) ∨ 15 ≤ j by omega) with rfl | rfl | h | h
        · show T 9 key = nI (T 9 key).toNatClampNeg
          rw [r9]; exact a1 17 (by decide) (by decide)
        · show T 10 key = nI (T 10 key).toNatClampNeg
          rw [r10]; exact a1 18 (by decide) (by decide)
        · exact (z_zero (r11 j h)).1
        · show T j key = nI (T j key).toNatClampNeg
          rw [rj j h j2]; exact a1 j j1 (by omega)
      by_cases hr : zrdy S (zown (zn S 22 0) key)
      · have hu : S 22 2 = (-1) := Decidable.byContradiction (fun z => by
          rcases d5 _ ho.2 with h | h
          · exact hr.1 h
          · exact d4 z (hr.2.symm.trans (h.2.1 z)))
        have b6 := a6 hu
        have r19 : T 19 key = S 19 key + S 13 key := by rw [at1, if_neg (by omega), if_neg (by omega), if_neg (by omega), if_neg (by omega), if_neg (by omega), if_neg (by omega), if_neg (by omega), if_neg (by omega), if_pos ⟨hk, hr⟩, if_pos rfl]
        have r20 : T 20 key = S 20 key + S 14 key := by rw [at1, if_neg (by omega), if_neg (by omega), if_neg (by omega), if_neg (by omega), if_neg (by omega), if_neg (by omega), if_neg (by omega), if_neg (by omega), if_pos ⟨hk, hr⟩, if_neg (by omega), if_pos rfl]
        have h19 := hz 9 (by decide) (by decide) (by decide) (by decide)
        have h20 := hz 10 (by decide) (by decide) (by decide) (by decide)
        have t19 := z_addn (a1 19 (by decide) (by decide)) (a1 13 (by decide) (by decide)) (by omega)
        have t20 := z_addn (a1 20 (by decide) (by decide)) (a1 14 (by decide) (by decide)) (by omega)
        rw [← r19] at t19
        rw [← r20] at t20
        have y19 : zn T 19 key = zn S 19 key + zn S 13 key := t19.2
        have y20 : zn T 20 key = zn S 20 key + zn S 14 key := t20.2
        unfold vL at *
        refine ⟨fun j j1 j2 => ?_, by omega, by omega, by omega⟩
        rcases (show j ≤ 18 ∨ j = 19 ∨ j = 20 by omega) with h | rfl | rfl
        · exact h17 j j1 h
        · exact t19.1
        · exact t20.1
      · have r19 : T 19 key = S 19 key := by rw [at1, if_neg (by omega), if_neg (by omega), if_neg (by omega), if_neg (by omega), if_neg (by omega), if_neg (by omega), if_neg (by omega), if_neg (by omega), if_neg (fun z => hr z.2)]
        have r20 : T 20 key = S 20 key := by rw [at1, if_neg (by omega), if_neg (by omega), if_neg (by omega), if_neg (by omega), if_neg (by omega), if_neg (by omega), if_neg (by omega), if_neg (by omega), if_neg (fun z => hr z.2)]
        have y19 : zn T 19 key = zn S 19 key := congrArg Int32.toNatClampNeg r19
        have y20 : zn T 20 key = zn S 20 key := congrArg Int32.toNatClampNeg r20
        have e17 : zn S 17 key = zn S 19 key ∧ zn S 18 key = zn S 20 key := by
          by_cases hu : S 22 2 = (-1)
          · have hs : S 21 (zown (zn S 22 0) key) = (-1) := Decidable.byContradiction (fun z => hr ⟨z, ((d5 _ ho.2).elim (fun y => absurd y z) (fun y => y.2.2 hu))⟩)
            have h13 := hz0 key hk hs
            have y13 : zn S 13 key = 0 := (z_zero h13.1).2
            have y14 : zn S 14 key = 0 := (z_zero h13.2).2
            have b6 := a6 hu
            omega
          · have b7 := a7 hu
            omega
        unfold vL at *
        refine ⟨fun j j1 j2 => ?_, by omega, by omega, by omega⟩
        rcases (show j ≤ 18 ∨ j = 19 ∨ j = 20 by omega) with h | rfl | rfl
        · exact h17 j j1 h
        · rw [y19, r19]; exact a1 19 (by decide) (by decide)
        · rw [y20, r20]; exact a1 20 (by decide) (by decide)
    obtain ⟨c1, c2, c3, c4⟩ := rs
    have y9 : zn T 9 key = zn S 17 key := congrArg Int32.toNatClampNeg r9
    have y10 : zn T 10 key = zn S 18 key := congrArg Int32.toNatClampNeg r10
    have y11 : zn T 11 key = 0 := (z_zero (r11 11 (by omega))).2
    have y12 : zn T 12 key = 0 := (z_zero (r11 12 (by omega))).2
    have y13 : zn T 13 key = 0 := (z_zero (r11 13 (by omega))).2
    have y14 : zn T 14 key = 0 := (z_zero (r11 14 (by omega))).2
    have y17 : zn T 17 key = zn S 17 key := congrArg Int32.toNatClampNeg (rj 17 (by omega) (by omega))
    have y18 : zn T 18 key = zn S 18 key := congrArg Int32.toNatClampNeg (rj 18 (by omega) (by omega))
    have qt : q_t T key = 0 := by
      have h : ∀ m, m ≤ 16 → q_m (q_C T key) m = 0 := fun m => by
        induction m with
        | zero => intro _; rfl
        | succ m ih =>
          intro hm
          rw [q_m_s, ih (by omega)]
          show 0 + q_s (T 6) key (8 * m) (zn T 7 m) = 0
          rw [z7 m (by omega)]
          rfl
      exact h 16 (Nat.le_refl _)
    have qR2 : q_R T (zn T 2) key = q_R S (zn S 3) key := q_R_congr n1 (fun p hp => z2 p hp)
    have qR3 : q_R T (zn T 3) key = q_R S (zn S 3) key := q_R_congr n1 (fun p _ => by rw [z3])
    unfold vT1
    rw [qt, qR2, qR3, y9, y10, y11, y12, y13, y14, y17, y18]
    refine ⟨c1, ⟨by omega, by omega⟩, ⟨⟨by omega, by omega⟩, ⟨by omega, by omega⟩, c4⟩, a5, a5, fun _ => ⟨by omega, by omega⟩, fun z => absurd hu2 z⟩
/-! the state at the start -/
theorem q_s_zero {g : Nat → Int32} {key b : Nat} : ∀ n, q_s g key b n = 0 → True := fun _ _ => trivial
/-! take, pump, by the tie -/
def vJ (k : Nat) (S : zS) : Prop := (∃ M, IV k S M) ∧ vI S ∧ vA S
theorem vJ.z13 {k : Nat} {S M : zS} (I : IV k S M) : ∀ key, key < 32 → S 21 (zown (zn S 22 0) key) = (-1) → S 13 key = nI 0 ∧ S 14 key = nI 0 := fun key hk h => (I.2.2.1.2.2.2 key hk).2 h
theorem vA_congr {S T : zS} (h8 : T 8 = S 8) (h : vA S) : vA T := by
  unfold vA at *
  intro w hw z
  refine h w hw ?_
  intro q hq
  rw [← h8]
  exact z q hq
theorem vA_zero {T : zS} (h8 : ∀ c, c < 16 → T 8 c = nI 0) : vA T := fun w hw z => by
  have h1 := z 0 (by decide)
  rw [h8 _ (by omega)] at h1
  exact absurd h1 (by decide)
set_option maxHeartbeats 1000000 in
theorem vJ_take {k : Nat} {S : zS} (hk : k ≤ 2000) (J : vJ k S) {p w : Nat} (hp : p < 4) (hw : w < zn S 22 0) (hc : zcanT S p w) : vJ k (sp_tf S p w) := by
  obtain ⟨⟨M, I⟩, V, A⟩ := J
  have hw4 : w < 4 := by have := (zOK.w I.1).2.2; omega
  have hO := I.1
  have D := I.2.2.2
  refine ⟨⟨_, (iv_take I hp hw hc).1⟩, ?_⟩
  have R := iv_rem I hc.1 (show 4 * p + w < 16 by omega)
  have d9 := I.2.2.2.2.2.2.2.2.2.2.2.1
  unfold sp_tf
  by_cases h0 : 0 < S 6 (8 * (4 * p + w))
  · rw [if_pos h0]
    refine ⟨vI_te hO V (by omega) hc.1 hc.2 h0 (fun hu z => ?_) rfl rfl, vA_congr ?_ A⟩
    · obtain ⟨u1, u2, u3⟩ := q_under D hk hu
      obtain ⟨-, -, -, up⟩ := q_negi u1 u3 u2
      rw [z] at h0
      exact up h0
    · funext i
      rw [te_at, if_neg (by omega), if_neg (by omega), rem_j S _ 8 (by decide) (by decide)]
  · rw [if_neg h0]
    have hE' := vE_rem (c0 := 4 * p + w) V.1
    have hC' := vC_rem hO hc.1 V.2.1
    have hT' : vT (sp_rem S (4 * p + w)) := by
      obtain ⟨-, -, -, -, g3⟩ := q_rem hO hc.1
      have n1 := rem_j S (4 * p + w) 1 (by decide) (by decide)
      have z2 := rem_z S (4 * p + w) 2 (by decide) (by decide)
      refine vT_frame (fun j j1 j2 => rem_j S _ j (by omega) (by omega)) (rem_j S _ 21 (by decide) (by decide)) (rem_j S _ 22 (by decide) (by decide)) (fun key _ => ?_) (fun key _ => q_R_congr n1 (fun q _ => by rw [rem_z S _ 3 (by decide) (by decide)])) (fun key _ _ _ => q_R_congr n1 (fun q _ => by rw [rem_z S _ 5 (by decide) (by decide)])) V.2.2.1
      have h1 : q_t (sp_rem S (4 * p + w)) key = q_t S key := q_m_congr (fun c _ => by
        have h := g3 key c
        rw [q_neg (q_npos h0), q_e_0] at h
        split at h <;> omega)
      rw [h1, q_R_congr n1 (o := zn S 2) (o' := zn (sp_rem S (4 * p + w)) 2) (fun q _ => by rw [z2])]
    by_cases h1 : -(S 6 (8 * (4 * p + w))) = S 22 2
    · rw [if_pos h1]
      have hu : ¬ S 22 2 = (-1) := fun z => by
        rw [z] at h1
        have h3 : S 6 (8 * (4 * p + w)) = 1 := Int32.neg_inj.mp h1
        rw [h3] at h0
        exact absurd (by decide) h0
      have hx : S 6 (8 * (4 * p + w)) = -(S 22 2) := by rw [← h1, Int32.neg_neg]
      have g : ∀ j, j ≠ 6 → j ≠ 7 → sp_rem S (4 * p + w) j = S j := rem_j S (4 * p + w)
      have nz : ¬ zno S (4 * p + w) := fun z => z 0 hc.1 hx
      obtain ⟨a1, a2, a3, a4⟩ := d9 hu (4 * p + w) (by omega)
      rw [show (4 * p + w) / 4 = p by omega] at a2 a4
      rw [show (4 * p + w) % 4 = w by omega] at a4
      have hs : S 21 w = (-1) := Decidable.byContradiction (fun z => nz (a4 z).1)
      have h4 : S 4 p = nI 1 := (hO.b4 p).elim (fun z => absurd (a2 z) nz) id
      have g22 : sp_rem S (4 * p + w) 22 = S 22 := g 22 (by decide) (by decide)
      have z22 : zn (sp_rem S (4 * p + w)) 22 = zn S 22 := rem_z S _ 22 (by decide) (by decide)
      have B := iv_blk R.1 hp (w := w) (by rw [z22]; exact hw) (by rw [g22]; exact hu) (by rw [g 21 (by decide) (by decide)]; exact hs) (by rw [g 4 (by decide) (by decide)]; exact h4) (R.2 hu hx)
      have bj : ∀ j, j ≠ 8 → sp_blk (sp_rem S (4 * p + w)) p w j = sp_rem S (4 * p + w) j := fun j hj => by
        funext i
        rw [blk_at, if_neg (fun z => hj z.1)]
      have b8 : ∀ i, sp_blk (sp_rem S (4 * p + w)) p w 8 i = if i = 4 * p + w then nI 1 else S 8 i := fun i => by
        rw [blk_at, g 8 (by decide) (by decide)]
        grind
      have b22 : sp_blk (sp_rem S (4 * p + w)) p w 22 = S 22 := (bj 22 (by decide)).trans g22
      have b21 : sp_blk (sp_rem S (4 * p + w)) p w 21 = S 21 := (bj 21 (by decide)).trans (g 21 (by decide) (by decide))
      have bz22 : zn (sp_blk (sp_rem S (4 * p + w)) p w) 22 = zn S 22 := by funext i; unfold zn; rw [b22]
      have V1 : vI (sp_blk (sp_rem S (4 * p + w)) p w) := by
        refine ⟨vE_congr (bj 0 (by decide)) (bj 1 (by decide)) (bj 2 (by decide)) (bj 3 (by decide)) (bj 5 (by decide)) hE', vC_congr (bj 1 (by decide)) (bj 2 (by decide)) (bj 6 (by decide)) (bj 7 (by decide)) (congrFun (bj 22 (by decide)) 0) hC', ?_, ?_⟩
        · have bz : ∀ j, j ≠ 8 → zn (sp_blk (sp_rem S (4 * p + w)) p w) j = zn (sp_rem S (4 * p + w)) j := fun j hj => by funext i; unfold zn; rw [bj j hj]
          refine vT_frame (fun j j1 j2 => bj j (by omega)) (bj 21 (by decide)) (bj 22 (by decide)) (fun key _ => ?_) (fun key _ => q_R_congr (bj 1 (by decide)) (fun q _ => by rw [bz 3 (by decide)])) (fun key _ _ _ => q_R_congr (bj 1 (by decide)) (fun q _ => by rw [bz 5 (by decide)])) hT'
          rw [q_t_congr (bj 6 (by decide)) (bj 7 (by decide)), q_R_congr (bj 1 (by decide)) (o := zn (sp_rem S (4 * p + w)) 2) (o' := zn (sp_blk (sp_rem S (4 * p + w)) p w) 2) (fun q _ => by rw [bz 2 (by decide)])]
        · exact vB_blk hO hw4 hc.1 hc.2 hx (q_neg (q_npos h0)) (fun i hi hxi => a1 i 0 hi hc.1 hxi (by rw [Nat.add_zero]; exact hx)) V.2.2.2
      unfold sp_tb
      by_cases hb : zallB (sp_blk (sp_rem S (4 * p + w)) p w) w
      · rw [if_pos hb]
        have W1 := vI_seal1 B.1 B.2.2.2 V1 (vJ.z13 B) hw4 (by rw [b22]; exact hu) (by rw [b21]; exact hs) hb
        have A1 : vA (sp_seal1 (sp_blk (sp_rem S (4 * p + w)) p w) w) := fun v hv z => by
          have at1 := seal1_at (sp_blk (sp_rem S (4 * p + w)) p w) w hw4
          by_cases e : v = w
          · subst e
            have h := z 0 (by decide)
            rw [at1, if_pos ⟨rfl, by omega, by omega⟩] at h
            exact absurd h (by decide)
          · refine A v hv (fun q hq => ?_)
            have h := z q hq
            rw [at1, if_neg (by omega), if_neg (by omega)] at h
            have h2 : sp_blk (sp_rem S (4 * p + w)) p w 8 (4 * q + v) = nI 1 := by
              split at h
              · simpa using h
              · exact h
            rw [b8, if_neg (by omega)] at h2
            exact h2
        unfold sp_seal
        split
        · rename_i hall
          have s22 := seal1_g (sp_blk (sp_rem S (4 * p + w)) p w) hw4 22 (by omega)
          have sz22 : zn (sp_seal1 (sp_blk (sp_rem S (4 * p + w)) p w) w) 22 0 = zn S 22 0 := by unfold zn; rw [s22, b22]
          refine ⟨vI_cc W1 (by rw [s22, b22]; exact hu) (fun key => hall _ ?_), vA_congr ?_ A1⟩
          · rw [sz22]; exact (hO.own key).1
          · funext i
            rw [cc_at, if_neg (by omega), if_neg (by omega), if_neg (by omega), if_neg (by omega), if_neg (by omega)]
        · exact ⟨W1, A1⟩
      · rw [if_neg hb]
        refine ⟨V1, fun v hv z => ?_⟩
        by_cases e : v = w
        · subst e; exact hb z
        · refine A v hv (fun q hq => ?_)
          have h := z q hq
          rw [b8, if_neg (by omega)] at h
          exact h
    · rw [if_neg h1]
      refine ⟨⟨hE', hC', hT', vB_rem hO hc.1 hc.2 (fun _ z => h1 (by rw [z, Int32.neg_neg])) V.2.2.2⟩, vA_congr (rem_j S _ 8 (by decide) (by decide)) A⟩

theorem vJ_read {k : Nat} {S : zS} (J : vJ k S) {p : Nat} (hp : p < 4) (hc : zcanR S p) : vJ k (sp_read S p) := by
  obtain ⟨⟨M, I⟩, V, A⟩ := J
  exact ⟨⟨_, iv_read I hp hc⟩, vI_read I.1 V hp hc, vA_congr rfl A⟩
theorem vJ_rr {k : Nat} {S : zS} (J : vJ k S) : ∀ p, p ≤ 4 → vJ k (sp_rr S p)
  | 0, _ => J
  | p + 1, h => by
    have h1 := vJ_rr J p (by omega)
    unfold sp_rr
    split
    · rename_i hc
      exact vJ_read h1 (by omega) hc
    · exact h1
theorem vJ_tw {k : Nat} {S : zS} (hk : k ≤ 2000) {w : Nat} (J : vJ k S) (hw : w < zn S 22 0) : ∀ p, p ≤ 4 → vJ k (sp_tw S w p)
  | 0, _ => J
  | p + 1, h => by
    have h1 := vJ_tw hk J hw p (by omega)
    have h0 : zn (sp_tw S w p) 22 0 = zn S 22 0 := congrArg Int32.toNatClampNeg (w0_tw S w p)
    unfold sp_tw
    split
    · rename_i hc
      exact vJ_take hk h1 (by omega) (by rw [h0]; exact hw) hc
    · exact h1
theorem vJ_tt {k : Nat} {S : zS} (hk : k ≤ 2000) (J : vJ k S) : ∀ w, w ≤ zn S 22 0 → vJ k (sp_tt S w)
  | 0, _ => J
  | w + 1, h => vJ_tw hk (vJ_tt hk J w (by omega)) (by rw [zn_tt]; omega) 4 (by omega)
theorem vJ_pm {k : Nat} {S : zS} (hk : k ≤ 2000) (J : vJ k S) : ∀ t, vJ k (sp_pm S t)
  | 0 => J
  | t + 1 => vJ_tt hk (vJ_rr (vJ_pm hk J t) 4 (by omega)) _ (Nat.le_refl _)
theorem vJ_mono {k k1 : Nat} {S : zS} (h : k ≤ k1) (J : vJ k S) : vJ k1 S := by
  obtain ⟨⟨M, I⟩, V⟩ := J
  exact ⟨⟨M, I.1, I.2.1, I.2.2.1, zDeep_mono h I.2.2.2⟩, V⟩
theorem vJ_app {k : Nat} {S : zS} (J : vJ k S) {p key v : Nat} (hp : p < 4) (hk : key < 32) (hv : 1 ≤ v) (hv2 : v ≤ 100) (hn : zn S 0 p < 60) : vJ (k + 1) (sp_app S p (nI (1000 * key + v))) := by
  obtain ⟨⟨M, I⟩, V, A⟩ := J
  exact ⟨⟨_, iv_append I hp hk hv2 hn⟩, vI_app I.1 V hp hk hv hv2 hn, vA_congr rfl A⟩
theorem vJ_send {k : Nat} {S : zS} (hk : k ≤ 2000) (J : vJ k S) {p : Nat} (hp : p < 4) (hc1 : ¬ S 22 2 = (-1)) (hc2 : S 4 p = nI 0) (hc : ∀ w, w < zn S 22 0 → zn S 7 (4 * p + w) < 8) : vJ k (sp_send S p) := by
  obtain ⟨⟨M, I⟩, V, A⟩ := J
  refine ⟨⟨_, (iv_send I hp hc1 hc2 hc).1⟩, vI_send I.1 I.2.2.2 hk V hp hc1 hc2 hc, vA_congr ?_ A⟩
  funext i
  unfold sp_send
  rw [keep_at, if_neg (by omega), if_neg (by omega), sbr_at S p 8 i _ hc, if_neg (by omega), if_neg (by omega)]
theorem vJ_com {k : Nat} {S : zS} (J : vJ k S) {w : Nat} (hw : w < zn S 22 0) (hc : zrdy S w) : vJ k (sp_com S w) := by
  obtain ⟨⟨M, I⟩, V, A⟩ := J
  refine ⟨⟨_, (iv_commit I hw hc).1⟩, vI_com I.1 I.2.2.2 V hw hc, vA_congr ?_ A⟩
  funext i
  rw [com_at]
  grind
theorem vJ_beg {k : Nat} {S : zS} (hk : k ≤ 2000) (J : vJ k S) (h1 : S 22 2 = (-1)) (h2 : ∀ w, w < zn S 22 0 → S 21 w = (-1)) : vJ (k + 1) (sp_beg S) := by
  obtain ⟨⟨M, I⟩, V, A⟩ := J
  exact ⟨⟨_, iv_begin I hk h1 h2⟩, vI_beg I.1 I.2.2.2 hk V (vJ.z13 I) h1 h2, vA_congr rfl A⟩
theorem vJ_ab {k : Nat} {S : zS} (J : vJ k S) (h1 : ¬ S 22 2 = (-1)) : vJ k (sp_ab S) := by
  obtain ⟨⟨M, I⟩, V, A⟩ := J
  have I1 := (iv_abandon I h1).1
  refine ⟨⟨_, I1⟩, vI_ab I.1 I.2.2.2 V (vJ.z13 I) h1, ?_⟩
  have e : sp_ab S 22 2 = (-1) := by
    unfold sp_ab
    rw [sa2_at, if_pos ⟨rfl, rfl⟩]
  have d7 := I1.2.2.2.2.2.2.2.2.2.1
  exact vA_zero (fun c _ => d7 e c)
theorem vJ_sa {k : Nat} {S : zS} (J : vJ k S) {n : Nat} (h1 : 1 ≤ n) (h4 : n ≤ 4) : vJ k (sp_sa S n) := by
  obtain ⟨⟨M, I⟩, V, A⟩ := J
  have I1 := iv_sa I h1 h4
  refine ⟨⟨_, I1⟩, vI_sa I.1 I.2.2.2 V (vJ.z13 I) n, ?_⟩
  have e : sp_sa S n 22 2 = (-1) := by rw [sa_at I.1, if_neg (by omega), if_pos ⟨rfl, rfl⟩]
  have d7 := I1.2.2.2.2.2.2.2.2.2.1
  exact vA_zero (fun c _ => d7 e c)
