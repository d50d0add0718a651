/-! checkpoints, commits, crashes keep the invariant -/
set_option maxHeartbeats 1000000 in
/-- the last worker has sealed: complete -/
theorem vI_cc {S : zS} (I : vI S) (hu : ¬ S 22 2 = (-1)) (hW : ∀ key, ¬ S 21 (zown (zn S 22 0) key) = (-1)) : vI (sp_cc S) := by
  obtain ⟨hE, hC, hT, hB⟩ := I
  have at1 := cc_at S
  have tj : ∀ j, j ≠ 3 → j ≠ 17 → j ≠ 18 → j ≠ 22 → sp_cc S j = S j := fun j h1 h2 h3 h4 => by
    funext i
    rw [at1, if_neg (by omega), if_neg (by omega), if_neg (by omega), if_neg (by omega), if_neg (by omega)]
  generalize sp_cc S = T at at1 tj ⊢
  have e220 : T 22 0 = S 22 0 := by rw [at1, if_neg (by omega), if_neg (by omega), if_neg (by omega), if_neg (by omega), if_neg (by omega)]
  have e222 : T 22 2 = (-1) := by rw [at1, if_neg (by omega), if_neg (by omega), if_neg (by omega), if_neg (by omega), if_pos ⟨rfl, rfl⟩]
  have z220 : zn T 22 0 = zn S 22 0 := congrArg Int32.toNatClampNeg e220
  have e3 : ∀ p, p < 4 → T 3 p = S 5 p := fun p hp => by rw [at1, if_neg (by omega), if_neg (by omega), if_pos ⟨rfl, hp⟩]
  have z3 : ∀ p, p < 4 → zn T 3 p = zn S 5 p := fun p hp => congrArg Int32.toNatClampNeg (e3 p hp)
  have zj : ∀ j, j ≠ 3 → j ≠ 17 → j ≠ 18 → j ≠ 22 → zn T j = zn S j := fun j h1 h2 h3 h4 => by funext i; unfold zn; rw [tj j h1 h2 h3 h4]
  have n1 := tj 1 (by decide) (by decide) (by decide) (by decide)
  have m2 := zj 2 (by decide) (by decide) (by decide) (by decide)
  refine ⟨fun q hq => ?_, vC_congr n1 (tj 2 (by decide) (by decide) (by decide) (by decide)) (tj 6 (by decide) (by decide) (by decide) (by decide)) (tj 7 (by decide) (by decide) (by decide) (by decide)) e220 hC, fun key hk => ?_, fun z => absurd e222 z⟩
  · rw [zj 0 (by decide) (by decide) (by decide) (by decide), zj 1 (by decide) (by decide) (by decide) (by decide), m2, zj 5 (by decide) (by decide) (by decide) (by decide), z3 q hq]
    obtain ⟨a1, a2, a3, a4⟩ := hE q hq
    exact ⟨a1, a3, a3, a4⟩
  · obtain ⟨a1, a2, a3, a4, a5, a6, a7⟩ := hT key hk
    obtain ⟨b1, b2, b3⟩ := a7 hu
    obtain ⟨c1, c2, c3⟩ := b3 (hW key)
    have r17 : T 17 key = S 15 key := by rw [at1, if_pos ⟨rfl, hk⟩]
    have r18 : T 18 key = S 16 key := by rw [at1, if_neg (by omega), if_pos ⟨rfl, hk⟩]
    have y17 : zn T 17 key = zn S 15 key := congrArg Int32.toNatClampNeg r17
    have y18 : zn T 18 key = zn S 16 key := congrArg Int32.toNatClampNeg r18
    have yj : ∀ j, 9 ≤ j → j ≤ 20 → j ≠ 17 → j ≠ 18 → zn T j key = zn S j key := fun j j1 j2 j3 j4 => congrFun (zj j (by omega) j3 j4 (by omega)) key
    have qt : q_t T key = q_t S key := q_t_congr (tj 6 (by decide) (by decide) (by decide) (by decide)) (tj 7 (by decide) (by decide) (by decide) (by decide))
    have qR2 : q_R T (zn T 2) key = q_R S (zn S 2) key := q_R_congr n1 (fun p _ => by rw [m2])
    have qR3 : q_R T (zn T 3) key = q_R S (zn S 5) key := q_R_congr n1 (fun p hp => z3 p hp)
    unfold vT1
    rw [qt, qR2, qR3, y17, y18, yj 9 (by decide) (by decide) (by decide) (by decide), yj 10 (by decide) (by decide) (by decide) (by decide), yj 11 (by decide) (by decide) (by decide) (by decide), yj 12 (by decide) (by decide) (by decide) (by decide), yj 13 (by decide) (by decide) (by decide) (by decide), yj 14 (by decide) (by decide) (by decide) (by decide), yj 19 (by decide) (by decide) (by decide) (by decide), yj 20 (by decide) (by decide) (by decide) (by decide)]
    refine ⟨fun j j1 j2 => ?_, a2, a3, a4, c3, fun _ => ⟨c1, c2⟩, fun z => absurd e222 z⟩
    rcases (show j = 17 ∨ j = 18 ∨ (j ≠ 17 ∧ j ≠ 18) by omega) with rfl | rfl | ⟨h1, h2⟩
    · rw [y17, r17]; exact a1 15 (by decide) (by decide)
    · rw [y18, r18]; exact a1 16 (by decide) (by decide)
    · rw [yj j j1 j2 h1 h2, tj j (by omega) h1 h2 (by omega)]; exact a1 j j1 j2
/-- rows of tallies alone change, of sealed, open, sink: none under way behind it -/
theorem vT_less {S T : zS} (hT : vT S) (hu : T 22 2 = (-1)) (hR2 : ∀ key, key < 32 → q_R T (zn T 2) key = q_R S (zn S 2) key) (hR3 : ∀ key, key < 32 → q_R T (zn T 3) key = q_R S (zn S 3) key) (ht : ∀ key, key < 32 → q_t T key = q_t S key) (hj : ∀ j key, key < 32 → j = 9 ∨ j = 10 ∨ 15 ≤ j → j ≤ 18 → T j key = S j key) (hn : ∀ key, key < 32 → vN T key) (hk : ∀ key, key < 32 → vN S key → (zn S 9 key = zn S 19 key + zn S 13 key + zn S 11 key ∧ zn S 10 key = zn S 20 key + zn S 14 key + zn S 12 key) → (vL (zn S 11 key) (zn S 12 key) ∧ vL (zn S 13 key) (zn S 14 key) ∧ vL (zn S 19 key) (zn S 20 key)) → (zn S 9 key = zn T 19 key + zn T 13 key + zn T 11 key ∧ zn S 10 key = zn T 20 key + zn T 14 key + zn T 12 key) ∧ (vL (zn T 11 key) (zn T 12 key) ∧ vL (zn T 13 key) (zn T 14 key) ∧ vL (zn T 19 key) (zn T 20 key)) ∧ zn S 17 key = zn T 19 key + zn T 13 key ∧ zn S 18 key = zn T 20 key + zn T 14 key) : vT T := by
  intro key hk2
  obtain ⟨a1, a2, a3, a4, a5, a6, a7⟩ := hT key hk2
  obtain ⟨c1, c2, c3, c4⟩ := hk key hk2 a1 a2 a3
  have y : ∀ j, j = 9 ∨ j = 10 ∨ 15 ≤ j → j ≤ 18 → zn T j key = zn S j key := fun j h1 h2 => congrArg Int32.toNatClampNeg (hj j key hk2 h1 h2)
  unfold vT1
  rw [hR2 key hk2, hR3 key hk2, ht key hk2, y 9 (by omega) (by omega), y 10 (by omega) (by omega), y 17 (by omega) (by omega), y 18 (by omega) (by omega)]
  exact ⟨hn key hk2, c1, c2, a4, a5, fun _ => ⟨c3, c4⟩, fun z => absurd hu z⟩
set_option maxHeartbeats 1000000 in
/-- a sealed transaction is committed -/
theorem vI_com {k : Nat} {S : zS} (hO : zOK S) (D : zDeep k S) (I : vI S) {w : Nat} (hw : w < zn S 22 0) (hc : zrdy S w) : vI (sp_com S w) := by
  obtain ⟨hE, hC, hT, hB⟩ := I
  have hw4 : w < 4 := by have := (zOK.w hO).2.2; omega
  obtain ⟨-, -, -, d4, d5, -⟩ := D
  have hu : S 22 2 = (-1) := Decidable.byContradiction (fun z => by
    rcases d5 w hw4 with h | h
    · exact hc.1 h
    · exact d4 z (hc.2.symm.trans (h.2.1 z)))
  have at1 := com_at S w
  have tj : ∀ j, j ≠ 21 → j ≠ 13 → j ≠ 14 → j ≠ 19 → j ≠ 20 → sp_com S w j = S j := fun j h1 h2 h3 h4 h5 => by
    funext i
    rw [at1, if_neg (by omega)]
    grind
  generalize sp_com S w = T at at1 tj ⊢
  have zj : ∀ j, j ≠ 21 → j ≠ 13 → j ≠ 14 → j ≠ 19 → j ≠ 20 → zn T j = zn S j := fun j h1 h2 h3 h4 h5 => by funext i; unfold zn; rw [tj j h1 h2 h3 h4 h5]
  have n1 := tj 1 (by decide) (by decide) (by decide) (by decide) (by decide)
  have n22 := tj 22 (by decide) (by decide) (by decide) (by decide) (by decide)
  have hu2 : T 22 2 = (-1) := by rw [n22]; exact hu
  refine ⟨vE_congr (tj 0 (by decide) (by decide) (by decide) (by decide) (by decide)) n1 (tj 2 (by decide) (by decide) (by decide) (by decide) (by decide)) (tj 3 (by decide) (by decide) (by decide) (by decide) (by decide)) (tj 5 (by decide) (by decide) (by decide) (by decide) (by decide)) hE, vC_congr n1 (tj 2 (by decide) (by decide) (by decide) (by decide) (by decide)) (tj 6 (by decide) (by decide) (by decide) (by decide) (by decide)) (tj 7 (by decide) (by decide) (by decide) (by decide) (by decide)) (congrFun n22 0) hC, ?_, fun z => absurd hu2 z⟩
  have key1 : ∀ key, key < 32 → vN T key ∧ zn T 11 key = zn S 11 key ∧ zn T 12 key = zn S 12 key ∧ ((zn T 13 key = zn S 13 key ∧ zn T 14 key = zn S 14 key ∧ zn T 19 key = zn S 19 key ∧ zn T 20 key = zn S 20 key) ∨ (zn T 13 key = 0 ∧ zn T 14 key = 0 ∧ zn T 19 key = zn S 19 key + zn S 13 key ∧ zn T 20 key = zn S 20 key + zn S 14 key)) := by
    intro key hk
    have hz := vT_z hO hE (hT key hk)
    obtain ⟨a1, a2, a3, -, -, -, -⟩ := hT key hk
    have h19 := hz 9 (by decide) (by decide) (by decide) (by decide)
    have h20 := hz 10 (by decide) (by decide) (by decide) (by decide)
    by_cases e : zown (zn S 22 0) key = w
    · have r19 : T 19 key = S 19 key + S 13 key := by rw [at1, if_neg (by omega), if_pos ⟨hk, e⟩, if_pos rfl]
      have r20 : T 20 key = S 20 key + S 14 key := by rw [at1, if_neg (by omega), if_pos ⟨hk, e⟩, if_neg (by omega), if_pos rfl]
      have r13 : T 13 key = nI 0 := by rw [at1, if_neg (by omega), if_pos ⟨hk, e⟩, if_neg (by omega), if_neg (by omega), if_pos (Or.inl rfl)]
      have r14 : T 14 key = nI 0 := by rw [at1, if_neg (by omega), if_pos ⟨hk, e⟩, if_neg (by omega), if_neg (by omega), if_pos (Or.inr rfl)]
      have t19 := z_addn (a1 19 (by decide) (by decide)) (a1 13 (by decide) (by decide)) (by omega)
      have t20 := z_addn (a1 20 (by decide) (by decide)) (a1 14 (by decide) (by decide)) (by omega)
      rw [← r19] at t19
      rw [← r20] at t20
      have t13 := z_zero r13
      have t14 := z_zero r14
      refine ⟨fun j j1 j2 => ?_, congrFun (zj 11 (by decide) (by decide) (by decide) (by decide) (by decide)) key, congrFun (zj 12 (by decide) (by decide) (by decide) (by decide) (by decide)) key, Or.inr ⟨t13.2, t14.2, t19.2, t20.2⟩⟩
      rcases (show j = 13 ∨ j = 14 ∨ j = 19 ∨ j = 20 ∨ (j ≠ 13 ∧ j ≠ 14 ∧ j ≠ 19 ∧ j ≠ 20) by omega) with rfl | rfl | rfl | rfl | ⟨h1, h2, h3, h4⟩
      · exact t13.1
      · exact t14.1
      · exact t19.1
      · exact t20.1
      · rw [congrFun (zj j (by omega) h1 h2 h3 h4) key, tj j (by omega) h1 h2 h3 h4]; exact a1 j j1 j2
    · have rj : ∀ j, 9 ≤ j → j ≤ 20 → T j key = S j key := fun j j1 j2 => by rw [at1, if_neg (by omega), if_neg (fun z => e z.2)]
      have yj : ∀ j, 9 ≤ j → j ≤ 20 → zn T j key = zn S j key := fun j j1 j2 => congrArg Int32.toNatClampNeg (rj j j1 j2)
      exact ⟨fun j j1 j2 => by rw [yj j j1 j2, rj j j1 j2]; exact a1 j j1 j2, yj 11 (by decide) (by decide), yj 12 (by decide) (by decide), Or.inl ⟨yj 13 (by decide) (by decide), yj 14 (by decide) (by decide), yj 19 (by decide) (by decide), yj 20 (by decide) (by decide)⟩⟩
  refine vT_less hT hu2 (fun key _ => q_R_congr n1 (fun p _ => by rw [zj 2 (by decide) (by decide) (by decide) (by decide) (by decide)])) (fun key _ => q_R_congr n1 (fun p _ => by rw [zj 3 (by decide) (by decide) (by decide) (by decide) (by decide)])) (fun key _ => q_t_congr (tj 6 (by decide) (by decide) (by decide) (by decide) (by decide)) (tj 7 (by decide) (by decide) (by decide) (by decide) (by decide))) (fun j key _ h1 h2 => congrFun (tj j (by omega) (by omega) (by omega) (by omega) (by omega)) key) (fun key hk => (key1 key hk).1) (fun key hk b1 b2 b3 => ?_)
  obtain ⟨-, c1, c2, c3⟩ := key1 key hk
  have a6 := (hT key hk).2.2.2.2.2.1 hu
  unfold vL at *
  omega
/-- a checkpoint is begun -/
theorem vI_beg {k : Nat} {S : zS} (hO : zOK S) (D : zDeep k S) (hk : k ≤ 2000) (I : vI S) (hz0 : ∀ key, key < 32 → S 21 (zown (zn S 22 0) key) = (-1) → S 13 key = nI 0 ∧ S 14 key = nI 0) (h1 : S 22 2 = (-1)) (h2 : ∀ w, w < zn S 22 0 → S 21 w = (-1)) : vI (sp_beg S) := by
  obtain ⟨hE, hC, hT, hB⟩ := I
  have eS : ∀ j i, sp_beg S j i = if j = 4 ∧ i < 4 then nI 0 else if j = 22 ∧ (i = 1 ∨ i = 2) then S 22 1 + nI 1 else S j i := fun j i => by
    unfold sp_beg
    simp only [zU_at, up_at, z_at]
    grind
  have hu0 : S 22 1 + nI 1 = nI (zn S 22 1 + 1) := by
    have h := D.1.1
    exact (congrArg (· + nI 1) h).trans (nI_add _ 1)
  have tj : ∀ j, j ≠ 4 → j ≠ 22 → sp_beg S j = S j := fun j a b => by
    funext i
    rw [eS, if_neg (by omega), if_neg (by omega)]
  generalize sp_beg S = T at eS tj ⊢
  have zj : ∀ j, j ≠ 4 → j ≠ 22 → zn T j = zn S j := fun j a b => by funext i; unfold zn; rw [tj j a b]
  have e0 : T 22 0 = S 22 0 := by rw [eS, if_neg (by omega), if_neg (by omega)]
  have e2 : ¬ T 22 2 = (-1) := by
    rw [eS, if_neg (by omega), if_pos ⟨rfl, Or.inr rfl⟩, hu0]
    intro z
    have hb := D.1.2
    have h3 := congrArg Int32.toInt z
    rw [nI_toInt (by omega)] at h3
    have h4 : (-1 : Int32).toInt = -1 := by decide
    omega
  have z0 : zn T 22 0 = zn S 22 0 := congrArg Int32.toNatClampNeg e0
  have n1 := tj 1 (by decide) (by decide)
  refine ⟨vE_congr (tj 0 (by decide) (by decide)) n1 (tj 2 (by decide) (by decide)) (tj 3 (by decide) (by decide)) (tj 5 (by decide) (by decide)) hE, vC_congr n1 (tj 2 (by decide) (by decide)) (tj 6 (by decide) (by decide)) (tj 7 (by decide) (by decide)) e0 hC, fun key hk2 => ?_, fun _ key q hk2 hq _ h4 => ?_⟩
  · obtain ⟨a1, a2, a3, a4, a5, a6, a7⟩ := hT key hk2
    have ho := (hO.own key)
    have h13 := hz0 key hk2 (h2 _ ho.1)
    have y13 : zn S 13 key = 0 := (z_zero h13.1).2
    have y14 : zn S 14 key = 0 := (z_zero h13.2).2
    have b6 := a6 h1
    have qt : q_t T key = q_t S key := q_t_congr (tj 6 (by decide) (by decide)) (tj 7 (by decide) (by decide))
    have qR2 : q_R T (zn T 2) key = q_R S (zn S 2) key := q_R_congr n1 (fun p _ => by rw [zj 2 (by decide) (by decide)])
    have qR3 : q_R T (zn T 3) key = q_R S (zn S 3) key := q_R_congr n1 (fun p _ => by rw [zj 3 (by decide) (by decide)])
    unfold vT1 vN
    simp only [qt, qR2, qR3, z0, tj 21 (by decide) (by decide), zj 9 (by decide) (by decide), zj 10 (by decide) (by decide), zj 11 (by decide) (by decide), zj 12 (by decide) (by decide), zj 13 (by decide) (by decide), zj 14 (by decide) (by decide), zj 15 (by decide) (by decide), zj 16 (by decide) (by decide), zj 17 (by decide) (by decide), zj 18 (by decide) (by decide), zj 19 (by decide) (by decide), zj 20 (by decide) (by decide)]
    refine ⟨fun j j1 j2 => ?_, a2, a3, a4, a5, fun z => absurd z e2, fun _ => ⟨by omega, by omega, fun z => absurd (h2 _ ho.1) z⟩⟩
    rw [zj j (by omega) (by omega), tj j (by omega) (by omega)]
    exact a1 j j1 j2
  · rw [eS, if_pos ⟨rfl, hq⟩] at h4
    exact absurd h4 (by decide)
set_option maxHeartbeats 1000000 in
/-- .. abandoned -/
theorem vI_ab {k : Nat} {S : zS} (hO : zOK S) (D : zDeep k S) (I : vI S) (hz0 : ∀ key, key < 32 → S 21 (zown (zn S 22 0) key) = (-1) → S 13 key = nI 0 ∧ S 14 key = nI 0) (hu : ¬ S 22 2 = (-1)) : vI (sp_ab S) := by
  obtain ⟨hE, hC, hT, hB⟩ := I
  have hW := (zOK.w hO).2
  obtain ⟨-, -, -, -, d5, -⟩ := D
  have at1 : ∀ j i, sp_ab S j i = if j = 22 ∧ i = 2 then (-1) else if j = 8 ∧ i < 16 ∧ i % 4 < zn S 22 0 then nI 0 else if j = 21 ∧ i < zn S 22 0 ∧ S 21 i = S 22 2 then (-1) else if i < 32 ∧ zown (zn S 22 0) i < zn S 22 0 ∧ S 21 (zown (zn S 22 0) i) = S 22 2 then (if j = 11 then S 11 i + S 13 i else if j = 12 then S 12 i + S 14 i else if j = 13 ∨ j = 14 then nI 0 else S j i) else S j i := fun j i => by
    unfold sp_ab
    rw [sa2_at, sab1_at S j i (zn S 22 0) hW.2]
  have tj : ∀ j, j ≠ 22 → j ≠ 8 → j ≠ 21 → ¬ (11 ≤ j ∧ j ≤ 14) → sp_ab S j = S j := fun j h1 h2 h3 h4 => by
    funext i
    rw [at1, if_neg (by omega), if_neg (by omega), if_neg (by omega)]
    split
    · rw [if_neg (by omega), if_neg (by omega), if_neg (by omega)]
    · rfl
  generalize sp_ab S = T at at1 tj ⊢
  have zj : ∀ j, j ≠ 22 → j ≠ 8 → j ≠ 21 → ¬ (11 ≤ j ∧ j ≤ 14) → zn T j = zn S j := fun j h1 h2 h3 h4 => by funext i; unfold zn; rw [tj j h1 h2 h3 h4]
  have n1 := tj 1 (by decide) (by decide) (by decide) (by decide)
  have e220 : T 22 0 = S 22 0 := by
    rw [at1, if_neg (by omega), if_neg (by omega), if_neg (by omega)]
    split
    · rw [if_neg (by omega), if_neg (by omega), if_neg (by omega)]
    · rfl
  have hu2 : T 22 2 = (-1) := by rw [at1, if_pos ⟨rfl, rfl⟩]
  refine ⟨vE_congr (tj 0 (by decide) (by decide) (by decide) (by decide)) n1 (tj 2 (by decide) (by decide) (by decide) (by decide)) (tj 3 (by decide) (by decide) (by decide) (by decide)) (tj 5 (by decide) (by decide) (by decide) (by decide)) hE, vC_congr n1 (tj 2 (by decide) (by decide) (by decide) (by decide)) (tj 6 (by decide) (by decide) (by decide) (by decide)) (tj 7 (by decide) (by decide) (by decide) (by decide)) e220 hC, ?_, fun z => absurd hu2 z⟩
  have key1 : ∀ key, key < 32 → vN T key ∧ zn T 19 key = zn S 19 key ∧ zn T 20 key = zn S 20 key ∧ zn T 13 key = 0 ∧ zn T 14 key = 0 ∧ zn T 11 key = zn S 11 key + zn S 13 key ∧ zn T 12 key = zn S 12 key + zn S 14 key := by
    intro key hk
    have hz := vT_z hO hE (hT key hk)
    obtain ⟨a1, a2, a3, -, -, -, -⟩ := hT key hk
    have h19 := hz 9 (by decide) (by decide) (by decide) (by decide)
    have h20 := hz 10 (by decide) (by decide) (by decide) (by decide)
    have ho := hO.own key
    have y19 := congrFun (zj 19 (by decide) (by decide) (by decide) (by decide)) key
    have y20 := congrFun (zj 20 (by decide) (by decide) (by decide) (by decide)) key
    by_cases e : S 21 (zown (zn S 22 0) key) = S 22 2
    · have hcnd : key < 32 ∧ zown (zn S 22 0) key < zn S 22 0 ∧ S 21 (zown (zn S 22 0) key) = S 22 2 := ⟨hk, ho.1, e⟩
      have r11 : T 11 key = S 11 key + S 13 key := by rw [at1, if_neg (by omega), if_neg (by omega), if_neg (by omega), if_pos hcnd, if_pos rfl]
      have r12 : T 12 key = S 12 key + S 14 key := by rw [at1, if_neg (by omega), if_neg (by omega), if_neg (by omega), if_pos hcnd, if_neg (by omega), if_pos rfl]
      have r13 : T 13 key = nI 0 := by rw [at1, if_neg (by omega), if_neg (by omega), if_neg (by omega), if_pos hcnd, if_neg (by omega), if_neg (by omega), if_pos (Or.inl rfl)]
      have r14 : T 14 key = nI 0 := by rw [at1, if_neg (by omega), if_neg (by omega), if_neg (by omega), if_pos hcnd, if_neg (by omega), if_neg (by omega), if_pos (Or.inr rfl)]
      have t11 := z_addn (a1 11 (by decide) (by decide)) (a1 13 (by decide) (by decide)) (by omega)
      have t12 := z_addn (a1 12 (by decide) (by decide)) (a1 14 (by decide) (by decide)) (by omega)
      rw [← r11] at t11
      rw [← r12] at t12
      have t13 := z_zero r13
      have t14 := z_zero r14
      refine ⟨fun j j1 j2 => ?_, y19, y20, t13.2, t14.2, t11.2, t12.2⟩
      rcases (show j = 11 ∨ j = 12 ∨ j = 13 ∨ j = 14 ∨ ¬ (11 ≤ j ∧ j ≤ 14) by omega) with rfl | rfl | rfl | rfl | h
      · exact t11.1
      · exact t12.1
      · exact t13.1
      · exact t14.1
      · rw [congrFun (zj j (by omega) (by omega) (by omega) h) key, tj j (by omega) (by omega) (by omega) h]; exact a1 j j1 j2
    · have rj : ∀ j, 9 ≤ j → j ≤ 20 → T j key = S j key := fun j j1 j2 => by rw [at1, if_neg (by omega), if_neg (by omega), if_neg (by omega), if_neg (fun z => e z.2.2)]
      have yj : ∀ j, 9 ≤ j → j ≤ 20 → zn T j key = zn S j key := fun j j1 j2 => congrArg Int32.toNatClampNeg (rj j j1 j2)
      have hs : S 21 (zown (zn S 22 0) key) = (-1) := (d5 _ ho.2).elim id (fun z => absurd (z.2.1 hu) e)
      have h13 := hz0 key hk hs
      have y13 : zn S 13 key = 0 := (z_zero h13.1).2
      have y14 : zn S 14 key = 0 := (z_zero h13.2).2
      have x11 := yj 11 (by decide) (by decide)
      have x12 := yj 12 (by decide) (by decide)
      have x13 := yj 13 (by decide) (by decide)
      have x14 := yj 14 (by decide) (by decide)
      exact ⟨fun j j1 j2 => by rw [yj j j1 j2, rj j j1 j2]; exact a1 j j1 j2, y19, y20, by omega, by omega, by omega, by omega⟩
  refine vT_less hT hu2 (fun key _ => q_R_congr n1 (fun p _ => by rw [zj 2 (by decide) (by decide) (by decide) (by decide)])) (fun key _ => q_R_congr n1 (fun p _ => by rw [zj 3 (by decide) (by decide) (by decide) (by decide)])) (fun key _ => q_t_congr (tj 6 (by decide) (by decide) (by decide) (by decide)) (tj 7 (by decide) (by decide) (by decide) (by decide))) (fun j key _ h1 h2 => congrFun (tj j (by omega) (by omega) (by omega) (by omega)) key) (fun key hk => (key1 key hk).1) (fun key hk b1 b2 b3 => ?_)
  obtain ⟨-, c1, c2, c3, c4, c5, c6⟩ := key1 key hk
  have a7 := (hT key hk).2.2.2.2.2.2 hu
  unfold vL at *
  omega
