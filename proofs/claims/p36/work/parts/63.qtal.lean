/-! tallies -/
theorem z_addn {x y : Int32} {a b : Nat} (h : x = nI a) (h2 : y = nI b) (hab : a + b ≤ 31100) : x + y = nI (x + y).toNatClampNeg ∧ (x + y).toNatClampNeg = a + b := by
  subst h h2
  rw [nI_add, nI_cl hab]
  exact ⟨rfl, rfl⟩
theorem vT_z {S : zS} {key : Nat} (hO : zOK S) (hE : vE S) (h : vT1 S key) : ∀ j, 9 ≤ j → j ≤ 20 → j ≠ 15 → j ≠ 16 → zn S j key ≤ 24000 := by
  have h1 := vT_le hO hE h
  obtain ⟨-, a1, a2, -, -, a3, a4⟩ := h
  unfold vL at a2
  intro j j1 j2 j3 j4
  have e17 : zn S 17 key ≤ 24000 := by
    by_cases u : S 22 2 = (-1)
    · have := a3 u; omega
    · have := a4 u; omega
  rcases (show j = 9 ∨ j = 10 ∨ j = 11 ∨ j = 12 ∨ j = 13 ∨ j = 14 ∨ j = 17 ∨ j = 18 ∨ j = 19 ∨ j = 20 by omega) with rfl | rfl | rfl | rfl | rfl | rfl | rfl | rfl | rfl | rfl <;> omega
/-- what a row of one key becomes: a sum, a copy, nothing, or as it was -/
theorem vN_of {S T : zS} {key : Nat} (h : ∀ j, 9 ≤ j → j ≤ 20 → T j key = nI (zn T j key)) : vN T key := h
theorem z_zero {x : Int32} (h : x = nI 0) : x = nI x.toNatClampNeg ∧ x.toNatClampNeg = 0 := by
  subst h
  exact ⟨by decide, by decide⟩
set_option maxHeartbeats 1000000 in
/-- an event is taken -/
theorem vI_te {S : zS} (hO : zOK S) (I : vI S) {c0 key v : Nat} (hc0 : c0 < 16) (hs : 0 < zn S 7 c0) (hb : ¬ S 8 c0 = nI 1) (hx : 0 < S 6 (8 * c0)) (hu : ¬ S 22 2 = (-1) → ¬ S 6 (8 * c0) = -(S 22 2)) (hk : key = zn S 6 (8 * c0) / 1000) (hv : v = zn S 6 (8 * c0) % 1000) : vI (sp_te (sp_rem S c0) key v) := by
  obtain ⟨hE, hC, hT, hB⟩ := I
  obtain ⟨-, -, -, -, g3⟩ := q_rem hO hs
  have hev : vEv (zn S 6 (8 * c0)) := by
    obtain ⟨-, f, a2⟩ := hC c0 hc0
    obtain ⟨b1, b2, -⟩ := a2 0 hs hx
    rw [Nat.add_zero] at b2
    rw [← b2]
    have hE2 := hE (c0 / 4) (by omega)
    exact hE2.2.2.2 _ (Nat.lt_of_lt_of_le b1 hE2.1)
  unfold vEv at hev
  rw [← hk, ← hv] at hev
  have tj : ∀ j, ¬ (j = 9 ∨ j = 10 ∨ j = 11 ∨ j = 12) → sp_te (sp_rem S c0) key v j = sp_rem S c0 j := fun j hj => by
    funext i
    rw [te_at, if_neg (by omega), if_neg (by omega)]
  have tt : ∀ j i, j ≠ 6 → j ≠ 7 → sp_te (sp_rem S c0) key v j i = if i = key ∧ (j = 9 ∨ j = 11) then S j i + nI 1 else if i = key ∧ (j = 10 ∨ j = 12) then S j i + nI v else S j i := fun j i j6 j7 => by
    rw [te_at, rem_j S c0 j j6 j7]
  have hE' := vE_rem (c0 := c0) hE
  have hC' := vC_rem hO hs hC
  have hB' := vB_rem hO hs hb hu hB
  refine ⟨vE_congr (tj 0 (by decide)) (tj 1 (by decide)) (tj 2 (by decide)) (tj 3 (by decide)) (tj 5 (by decide)) hE', vC_congr (tj 1 (by decide)) (tj 2 (by decide)) (tj 6 (by decide)) (tj 7 (by decide)) (congrFun (tj 22 (by decide)) 0) hC', fun k hk2 => ?_, vB_congr (tj 1 (by decide)) (tj 2 (by decide)) (tj 4 (by decide)) (tj 5 (by decide)) (tj 6 (by decide)) (tj 7 (by decide)) (tj 8 (by decide)) (tj 21 (by decide)) (congrFun (tj 22 (by decide)) 0) (congrFun (tj 22 (by decide)) 2) hB'⟩
  have hz := vT_z hO hE (hT k hk2)
  have h24 := vT_le hO hE (hT k hk2)
  obtain ⟨a1, a2, a3, a4, a5, a6, a7⟩ := hT k hk2
  have ht : q_t S k = q_t (sp_te (sp_rem S c0) key v) k + q_e (zn S 6 (8 * c0)) k := by
    have h1 : q_t (sp_te (sp_rem S c0) key v) k = q_t (sp_rem S c0) k := q_t_congr (tj 6 (by decide)) (tj 7 (by decide))
    have h2 : q_t (sp_rem S c0) k + q_C S k c0 = q_t S k + q_C (sp_rem S c0) k c0 := q_m_upd hc0 (fun c _ h => by have := g3 k c; rw [if_neg h] at this; omega)
    have h3 := g3 k c0
    rw [if_pos rfl] at h3
    unfold zn
    omega
  have hR : ∀ (o o' : Nat → Nat), (∀ p, p < 4 → o' p = o p) → q_R (sp_te (sp_rem S c0) key v) o' k = q_R S o k := fun o o' h => q_R_congr ((tj 1 (by decide)).trans (rem_j S c0 1 (by decide) (by decide))) h
  have z2 : zn (sp_te (sp_rem S c0) key v) 2 = zn S 2 := by funext i; unfold zn; rw [tj 2 (by decide), rem_j S c0 2 (by decide) (by decide)]
  have z3 : zn (sp_te (sp_rem S c0) key v) 3 = zn S 3 := by funext i; unfold zn; rw [tj 3 (by decide), rem_j S c0 3 (by decide) (by decide)]
  have z5 : zn (sp_te (sp_rem S c0) key v) 5 = zn S 5 := by funext i; unfold zn; rw [tj 5 (by decide), rem_j S c0 5 (by decide) (by decide)]
  have z22 : zn (sp_te (sp_rem S c0) key v) 22 = zn S 22 := by funext i; unfold zn; rw [tj 22 (by decide), rem_j S c0 22 (by decide) (by decide)]
  have e22 : sp_te (sp_rem S c0) key v 22 = S 22 := (tj 22 (by decide)).trans (rem_j S c0 22 (by decide) (by decide))
  have e21 : sp_te (sp_rem S c0) key v 21 = S 21 := (tj 21 (by decide)).trans (rem_j S c0 21 (by decide) (by decide))
  unfold vT1
  rw [e22, e21, z2, z3, z5, z22, hR _ _ (fun _ _ => rfl), hR _ _ (fun _ _ => rfl), hR _ _ (fun _ _ => rfl)]
  have he : q_e (zn S 6 (8 * c0)) k = if k = key then v else 0 := by
    unfold q_e
    rw [← hk, ← hv]
    by_cases h : k = key
    · rw [if_pos h.symm, if_pos h]
    · rw [if_neg (fun z => h z.symm), if_neg h]
  rw [he] at ht
  generalize sp_te (sp_rem S c0) key v = T at tt ht ⊢
  by_cases e : k = key
  · subst e
    rw [if_pos rfl] at ht
    have t9 := z_addn (a1 9 (by decide) (by decide)) (show nI 1 = nI 1 from rfl) (by have := hz 9 (by decide) (by decide) (by decide) (by decide); omega)
    have t11 := z_addn (a1 11 (by decide) (by decide)) (show nI 1 = nI 1 from rfl) (by have := hz 11 (by decide) (by decide) (by decide) (by decide); omega)
    have t10 := z_addn (a1 10 (by decide) (by decide)) (show nI v = nI v from rfl) (by omega)
    have t12 := z_addn (a1 12 (by decide) (by decide)) (show nI v = nI v from rfl) (by have := hz 12 (by decide) (by decide) (by decide) (by decide); omega)
    have r9 : T 9 k = S 9 k + nI 1 := by rw [tt 9 k (by decide) (by decide), if_pos ⟨rfl, Or.inl rfl⟩]
    have r11 : T 11 k = S 11 k + nI 1 := by rw [tt 11 k (by decide) (by decide), if_pos ⟨rfl, Or.inr rfl⟩]
    have r10 : T 10 k = S 10 k + nI v := by rw [tt 10 k (by decide) (by decide), if_neg (by omega), if_pos ⟨rfl, Or.inl rfl⟩]
    have r12 : T 12 k = S 12 k + nI v := by rw [tt 12 k (by decide) (by decide), if_neg (by omega), if_pos ⟨rfl, Or.inr rfl⟩]
    have rj : ∀ j, 13 ≤ j → j ≤ 20 → T j k = S j k := fun j j1 j2 => by rw [tt j k (by omega) (by omega), if_neg (by omega), if_neg (by omega)]
    rw [← r9] at t9
    rw [← r10] at t10
    rw [← r11] at t11
    rw [← r12] at t12
    have y9 : zn T 9 k = zn S 9 k + 1 := t9.2
    have y10 : zn T 10 k = zn S 10 k + v := t10.2
    have y11 : zn T 11 k = zn S 11 k + 1 := t11.2
    have y12 : zn T 12 k = zn S 12 k + v := t12.2
    have yj : ∀ j, 13 ≤ j → j ≤ 20 → zn T j k = zn S j k := fun j j1 j2 => congrArg Int32.toNatClampNeg (rj j j1 j2)
    have y13 := yj 13 (by decide) (by decide)
    have y14 := yj 14 (by decide) (by decide)
    have y15 := yj 15 (by decide) (by decide)
    have y16 := yj 16 (by decide) (by decide)
    have y17 := yj 17 (by decide) (by decide)
    have y18 := yj 18 (by decide) (by decide)
    have y19 := yj 19 (by decide) (by decide)
    have y20 := yj 20 (by decide) (by decide)
    unfold vL at *
    rw [y9, y10, y11, y12, y13, y14, y15, y16, y17, y18, y19, y20]
    refine ⟨fun j j1 j2 => ?_, by omega, by omega, by omega, a5, a6, a7⟩
    rcases (show j = 9 ∨ j = 10 ∨ j = 11 ∨ j = 12 ∨ 13 ≤ j by omega) with rfl | rfl | rfl | rfl | h
    · exact t9.1
    · exact t10.1
    · exact t11.1
    · exact t12.1
    · rw [yj j h j2, rj j h j2]
      exact a1 j j1 j2
  · rw [if_neg e] at ht
    have rj : ∀ j, 9 ≤ j → j ≤ 20 → T j k = S j k := fun j j1 j2 => by rw [tt j k (by omega) (by omega), if_neg (fun z => e z.1), if_neg (fun z => e z.1)]
    have yj : ∀ j, 9 ≤ j → j ≤ 20 → zn T j k = zn S j k := fun j j1 j2 => congrArg Int32.toNatClampNeg (rj j j1 j2)
    have y9 := yj 9 (by decide) (by decide)
    have y10 := yj 10 (by decide) (by decide)
    have y11 := yj 11 (by decide) (by decide)
    have y12 := yj 12 (by decide) (by decide)
    have y13 := yj 13 (by decide) (by decide)
    have y14 := yj 14 (by decide) (by decide)
    have y15 := yj 15 (by decide) (by decide)
    have y16 := yj 16 (by decide) (by decide)
    have y17 := yj 17 (by decide) (by decide)
    have y18 := yj 18 (by decide) (by decide)
    have y19 := yj 19 (by decide) (by decide)
    have y20 := yj 20 (by decide) (by decide)
    rw [y9, y10, y11, y12, y13, y14, y15, y16, y17, y18, y19, y20]
    refine ⟨fun j j1 j2 => by rw [yj j j1 j2, rj j j1 j2]; exact a1 j j1 j2, a2, a3, by omega, a5, a6, a7⟩
set_option maxHeartbeats 1000000 in
/-- a worker seals -/
theorem vI_seal1 {k : Nat} {S : zS} (hO : zOK S) (D : zDeep k S) (I : vI S) (hz0 : ∀ key, key < 32 → S 21 (zown (zn S 22 0) key) = (-1) → S 13 key = nI 0 ∧ S 14 key = nI 0) {w : Nat} (hw : w < 4) (hu : ¬ S 22 2 = (-1)) (hs : S 21 w = (-1)) (hb : ∀ q, q < 4 → S 8 (4 * q + w) = nI 1) : vI (sp_seal1 S w) := by
  obtain ⟨hE, hC, hT, hB⟩ := I
  obtain ⟨-, -, -, -, -, -, -, d8, d9, -⟩ := D
  have at1 := seal1_at S w hw
  have tj : ∀ j, j ≠ 8 → j ≠ 21 → ¬ (11 ≤ j ∧ j ≤ 16) → sp_seal1 S w j = S j := fun j h1 h2 h3 => by
    funext i
    rw [at1, if_neg (by omega), if_neg (by omega)]
    split
    · rw [if_neg (by omega), if_neg (by omega), if_neg (by omega), if_neg (by omega), if_neg (by omega)]
    · rfl
  generalize sp_seal1 S w = T at at1 tj ⊢
  have zj : ∀ j, j ≠ 8 → j ≠ 21 → ¬ (11 ≤ j ∧ j ≤ 16) → zn T j = zn S j := fun j h1 h2 h3 => by funext i; unfold zn; rw [tj j h1 h2 h3]
  have e22 := tj 22 (by decide) (by decide) (by decide)
  have z22 := zj 22 (by decide) (by decide) (by decide)
  have e21 : ∀ i, T 21 i = if i = w then S 22 2 else S 21 i := fun i => by
    rw [at1, if_neg (by omega)]
    by_cases h : i = w
    · rw [if_pos ⟨rfl, h⟩, if_pos h]
    · rw [if_neg (fun z => h z.2), if_neg h]
      grind
  have qt : ∀ key, q_t T key = q_t S key := fun key => q_t_congr (tj 6 (by decide) (by decide) (by decide)) (tj 7 (by decide) (by decide) (by decide))
  have qR : ∀ key o, q_R T o key = q_R S o key := fun key o => q_R_congr (tj 1 (by decide) (by decide) (by decide)) (fun _ _ => rfl)
  have z2 := zj 2 (by decide) (by decide) (by decide)
  have z3 := zj 3 (by decide) (by decide) (by decide)
  have z5 := zj 5 (by decide) (by decide) (by decide)
  refine ⟨vE_congr (tj 0 (by decide) (by decide) (by decide)) (tj 1 (by decide) (by decide) (by decide)) (tj 2 (by decide) (by decide) (by decide)) (tj 3 (by decide) (by decide) (by decide)) (tj 5 (by decide) (by decide) (by decide)) hE, vC_congr (tj 1 (by decide) (by decide) (by decide)) (tj 2 (by decide) (by decide) (by decide)) (tj 6 (by decide) (by decide) (by decide)) (tj 7 (by decide) (by decide) (by decide)) (congrFun e22 0) hC, fun key hk => ?_, ?_⟩
  · have hz := vT_z hO hE (hT key hk)
    have h24 := vT_le hO hE (hT key hk)
    obtain ⟨a1, a2, a3, a4, a5, a6, a7⟩ := hT key hk
    unfold vT1
    rw [e22, z22, z2, z3, z5, qR, qR, qR, qt, e21]
    by_cases e : zown (zn S 22 0) key = w
    · have r15 : T 15 key = S 9 key := by rw [at1, if_neg (by omega), if_neg (by omega), if_pos ⟨hk, e⟩, if_pos rfl]
      have r16 : T 16 key = S 10 key := by rw [at1, if_neg (by omega), if_neg (by omega), if_pos ⟨hk, e⟩, if_neg (by omega), if_pos rfl]
      have r13 : T 13 key = S 13 key + S 11 key := by rw [at1, if_neg (by omega), if_neg (by omega), if_pos ⟨hk, e⟩, if_neg (by omega), if_neg (by omega), if_pos rfl]
      have r14 : T 14 key = S 14 key + S 12 key := by rw [at1, if_neg (by omega), if_neg (by omega), if_pos ⟨hk, e⟩, if_neg (by omega), if_neg (by omega), if_neg (by omega), if_pos rfl]
      have r11 : T 11 key = nI 0 := by rw [at1, if_neg (by omega), if_neg (by omega), if_pos ⟨hk, e⟩, if_neg (by omega), if_neg (by omega), if_neg (by omega), if_neg (by omega), if_pos (Or.inl rfl)]
      have r12 : T 12 key = nI 0 := by rw [at1, if_neg (by omega), if_neg (by omega), if_pos ⟨hk, e⟩, if_neg (by omega), if_neg (by omega), if_neg (by omega), if_neg (by omega), if_pos (Or.inr rfl)]
      have t13 := z_addn (a1 13 (by decide) (by decide)) (a1 11 (by decide) (by decide)) (by have := hz 13 (by decide) (by decide) (by decide) (by decide); have := hz 9 (by decide) (by decide) (by decide) (by decide); omega)
      have t14 := z_addn (a1 14 (by decide) (by decide)) (a1 12 (by decide) (by decide)) (by have := hz 10 (by decide) (by decide) (by decide) (by decide); omega)
      have t11 := z_zero r11
      have t12 := z_zero r12
      rw [← r13] at t13
      rw [← r14] at t14
      have y13 : zn T 13 key = zn S 13 key + zn S 11 key := t13.2
      have y14 : zn T 14 key = zn S 14 key + zn S 12 key := t14.2
      have y11 : zn T 11 key = 0 := t11.2
      have y12 : zn T 12 key = 0 := t12.2
      have y15 : zn T 15 key = zn S 9 key := congrArg Int32.toNatClampNeg r15
      have y16 : zn T 16 key = zn S 10 key := congrArg Int32.toNatClampNeg r16
      have y9 := congrFun (zj 9 (by decide) (by decide) (by decide)) key
      have y10 := congrFun (zj 10 (by decide) (by decide) (by decide)) key
      have y17 := congrFun (zj 17 (by decide) (by decide) (by decide)) key
      have y18 := congrFun (zj 18 (by decide) (by decide) (by decide)) key
      have y19 := congrFun (zj 19 (by decide) (by decide) (by decide)) key
      have y20 := congrFun (zj 20 (by decide) (by decide) (by decide)) key
      have h13 : zn S 13 key = 0 ∧ zn S 14 key = 0 := by
        have := hz0 key hk (by rw [e]; exact hs)
        exact ⟨(z_zero this.1).2, (z_zero this.2).2⟩
      have hkeep : zn S 10 key = q_R S (zn S 5) key := by
        have hc : ∀ q, q < 4 → q_C S key (4 * q + w) + q_s (S 1) key (60 * q) (zn S 5 q) = q_s (S 1) key (60 * q) (zn S 2 q) := fun q hq => by
          have h4 := (d8 _ (hb q hq)).2.2.2
          rw [show (4 * q + w) / 4 = q by omega] at h4
          have h5 := (hB hu key q hk hq (by rw [e]; exact hs) h4).1
          rw [e] at h5
          exact h5 (hb q hq)
        have hno : ∀ c, c < 16 → c % 4 ≠ w → q_C S key c = 0 := fun c hc hcw => q_s_z (fun i hi => by
          by_cases hp : 0 < S 6 (8 * c + i)
          · have h5 := ((hC c hc).1 i hi).2 hp
            unfold q_e
            rw [if_neg]
            intro h6
            rw [show zn S 6 (8 * c + i) / 1000 = key from h6, e] at h5
            exact hcw h5.symm
          · rw [q_neg (q_npos hp), q_e_0])
        have c0 := hc 0 (by decide)
        have c1 := hc 1 (by decide)
        have c2 := hc 2 (by decide)
        have c3 := hc 3 (by decide)
        have hsum : q_t S key = q_C S key (4 * 0 + w) + q_C S key (4 * 1 + w) + q_C S key (4 * 2 + w) + q_C S key (4 * 3 + w) := by
          have hn := fun c (h : c < 16) (h2 : c % 4 ≠ w) => hno c h h2
          generalize hF : q_C S key = F at hn ⊢
          have h0 := hn 0 (by decide)
          have h1 := hn 1 (by decide)
          have h2 := hn 2 (by decide)
          have h3 := hn 3 (by decide)
          have h4 := hn 4 (by decide)
          have h5 := hn 5 (by decide)
          have h6 := hn 6 (by decide)
          have h7 := hn 7 (by decide)
          have h8 := hn 8 (by decide)
          have h9 := hn 9 (by decide)
          have h10 := hn 10 (by decide)
          have h11 := hn 11 (by decide)
          have h12 := hn 12 (by decide)
          have h13 := hn 13 (by decide)
          have h14 := hn 14 (by decide)
          have h15 := hn 15 (by decide)
          unfold q_t
          rw [hF]
          simp only [q_m]
          rcases (show w = 0 ∨ w = 1 ∨ w = 2 ∨ w = 3 by omega) with rfl | rfl | rfl | rfl <;> simp at h0 h1 h2 h3 h4 h5 h6 h7 h8 h9 h10 h11 h12 h13 h14 h15 <;> simp [*] <;> omega
        have hr2 : q_R S (zn S 2) key = q_s (S 1) key (60 * 0) (zn S 2 0) + q_s (S 1) key (60 * 1) (zn S 2 1) + q_s (S 1) key (60 * 2) (zn S 2 2) + q_s (S 1) key (60 * 3) (zn S 2 3) := by
          unfold q_R
          simp only [q_m, Nat.zero_add]
        have hr5 : q_R S (zn S 5) key = q_s (S 1) key (60 * 0) (zn S 5 0) + q_s (S 1) key (60 * 1) (zn S 5 1) + q_s (S 1) key (60 * 2) (zn S 5 2) + q_s (S 1) key (60 * 3) (zn S 5 3) := by
          unfold q_R
          simp only [q_m, Nat.zero_add]
        omega
      unfold vL at *
      have b7 := a7 hu
      rw [y9, y10, y11, y12, y13, y14, y15, y16, y17, y18, y19, y20, if_pos e]
      refine ⟨fun j j1 j2 => ?_, by omega, by omega, by omega, a5, fun z => absurd z hu, fun _ => ⟨by omega, by omega, fun _ => ⟨by omega, by omega, by omega⟩⟩⟩
      rcases (show j = 9 ∨ j = 10 ∨ j = 11 ∨ j = 12 ∨ j = 13 ∨ j = 14 ∨ j = 15 ∨ j = 16 ∨ 17 ≤ j by omega) with rfl | rfl | rfl | rfl | rfl | rfl | rfl | rfl | h
      · rw [y9, tj 9 (by decide) (by decide) (by decide)]; exact a1 9 j1 j2
      · rw [y10, tj 10 (by decide) (by decide) (by decide)]; exact a1 10 j1 j2
      · exact t11.1
      · exact t12.1
      · exact t13.1
      · exact t14.1
      · rw [y15, r15]; exact a1 9 (by decide) (by decide)
      · rw [y16, r16]; exact a1 10 (by decide) (by decide)
      · rw [congrFun (zj j (by omega) (by omega) (by omega)) key, tj j (by omega) (by omega) (by omega)]
        exact a1 j j1 j2
    · have rj : ∀ j, 9 ≤ j → j ≤ 20 → T j key = S j key := fun j j1 j2 => by rw [at1, if_neg (by omega), if_neg (by omega), if_neg (fun z => e z.2)]
      have yj : ∀ j, 9 ≤ j → j ≤ 20 → zn T j key = zn S j key := fun j j1 j2 => congrArg Int32.toNatClampNeg (rj j j1 j2)
      rw [if_neg e]
      simp only [yj 9 (by decide) (by decide), yj 10 (by decide) (by decide), yj 11 (by decide) (by decide), yj 12 (by decide) (by decide), yj 13 (by decide) (by decide), yj 14 (by decide) (by decide), yj 15 (by decide) (by decide), yj 16 (by decide) (by decide), yj 17 (by decide) (by decide), yj 18 (by decide) (by decide), yj 19 (by decide) (by decide), yj 20 (by decide) (by decide)]
      exact ⟨fun j j1 j2 => by rw [yj j j1 j2, rj j j1 j2]; exact a1 j j1 j2, a2, a3, a4, a5, a6, a7⟩
  · intro hu2 key q hk hq h1 h2
    have ho := (hO.own key).2
    rw [z22] at h1 ⊢
    rw [e21] at h1
    rw [tj 4 (by decide) (by decide) (by decide)] at h2
    by_cases e : zown (zn S 22 0) key = w
    · rw [if_pos e] at h1
      exact absurd h1 hu
    · rw [if_neg e] at h1
      have b := hB hu key q hk hq h1 h2
      unfold vB1 q_C at *
      rw [e22, z2, z5, zj 7 (by decide) (by decide) (by decide), tj 6 (by decide) (by decide) (by decide), tj 1 (by decide) (by decide) (by decide), at1 8, if_neg (by omega), if_neg (by omega)]
      rw [show (if 4 * q + zown (zn S 22 0) key < 32 ∧ zown (zn S 22 0) (4 * q + zown (zn S 22 0) key) = w then (if (8 : Nat) = 15 then S 9 (4 * q + zown (zn S 22 0) key) else if (8 : Nat) = 16 then S 10 (4 * q + zown (zn S 22 0) key) else if (8 : Nat) = 13 then S 13 (4 * q + zown (zn S 22 0) key) + S 11 (4 * q + zown (zn S 22 0) key) else if (8 : Nat) = 14 then S 14 (4 * q + zown (zn S 22 0) key) + S 12 (4 * q + zown (zn S 22 0) key) else if (8 : Nat) = 11 ∨ (8 : Nat) = 12 then nI 0 else S 8 (4 * q + zown (zn S 22 0) key)) else S 8 (4 * q + zown (zn S 22 0) key)) = S 8 (4 * q + zown (zn S 22 0) key) from by split <;> rfl]
      exact b
