theorem q_negi {x : Int32} {m : Nat} (h : x = nI m) (hm : m ≤ 31100) (h1 : 1 ≤ m) : (-x).toInt = -(m : Int) ∧ (-x).toNatClampNeg = 0 ∧ ¬ -x = 0 ∧ ¬ 0 < -x := by
  subst h
  have e : (-(nI m)).toInt = -(m : Int) := by
    rw [Int32.toInt_neg, nI_toInt (by omega), Int.bmod_eq_of_le (by omega) (by omega)]
  refine ⟨e, q_neg (by omega), fun z => ?_, fun z => ?_⟩
  · have := congrArg Int32.toInt z
    rw [e] at this
    simp only [Int32.toInt_zero] at this
    omega
  · rw [Int32.lt_iff_toInt_lt, e] at z
    simp only [Int32.toInt_zero] at z
    omega
/-- the number under way, as a count -/
theorem q_under {k : Nat} {S : zS} (D : zDeep k S) (hk : k ≤ 2000) (hu : ¬ S 22 2 = (-1)) : S 22 2 = nI (zn S 22 1) ∧ 1 ≤ zn S 22 1 ∧ zn S 22 1 ≤ 31100 := by
  obtain ⟨d1, d2, -⟩ := D
  rcases d2 with h | h
  · exact absurd h hu
  · exact ⟨h.1.trans d1.1, h.2, by omega⟩
set_option maxHeartbeats 1000000 in
/-- a barrier is sent -/
theorem vI_send {k : Nat} {S : zS} (hO : zOK S) (D : zDeep k S) (hk : k ≤ 2000) (I : vI S) {p : Nat} (hp : p < 4) (hc1 : ¬ S 22 2 = (-1)) (hc2 : S 4 p = nI 0) (hc : ∀ w, w < zn S 22 0 → zn S 7 (4 * p + w) < 8) : vI (sp_send S p) := by
  obtain ⟨hE, hC, hT, hB⟩ := I
  obtain ⟨u1, u2, u3⟩ := q_under D hk hc1
  obtain ⟨-, ux, u0, up⟩ := q_negi u1 u3 u2
  obtain ⟨-, -, -, -, -, -, -, d8, d9, -⟩ := D
  have hW := (zOK.w hO).2
  have sb := fun j i => sbr_at S p j i (zn S 22 0) hc
  have eT : ∀ j i, sp_send S p j i = if j = 4 ∧ i = p then nI 1 else if j = 5 ∧ i = p then nI (zn (sp_sb S p (zn S 22 0)) 2 p) else sp_sb S p (zn S 22 0) j i := fun j i => keep_at _ p j i
  have e2 : zn (sp_sb S p (zn S 22 0)) 2 p = zn S 2 p := by
    show (sp_sb S p (zn S 22 0) 2 p).toNatClampNeg = _
    rw [sb, if_neg (by omega), if_neg (by omega)]
    rfl
  rw [e2] at eT
  have r4 : ∀ i, sp_send S p 4 i = if i = p then nI 1 else S 4 i := fun i => by
    rw [eT, sb]
    grind
  have r5 : ∀ i, sp_send S p 5 i = if i = p then nI (zn S 2 p) else S 5 i := fun i => by
    rw [eT, sb]
    grind
  have r6 : ∀ i, sp_send S p 6 i = if 4 * p ≤ i / 8 ∧ i / 8 < 4 * p + zn S 22 0 ∧ i % 8 = zn S 7 (i / 8) then -(S 22 2) else S 6 i := fun i => by
    rw [eT, sb]
    grind
  have r7 : ∀ i, sp_send S p 7 i = if 4 * p ≤ i ∧ i < 4 * p + zn S 22 0 then nI (zn S 7 i + 1) else S 7 i := fun i => by
    rw [eT, sb]
    grind
  have rj : ∀ j, j ≠ 4 → j ≠ 5 → j ≠ 6 → j ≠ 7 → sp_send S p j = S j := fun j a b c d => by
    funext i
    rw [eT, sb]
    grind
  generalize sp_send S p = T at r4 r5 r6 r7 rj ⊢
  clear eT sb e2
  have z5 : ∀ i, zn T 5 i = if i = p then zn S 2 p else zn S 5 i := fun i => by
    show (T 5 i).toNatClampNeg = _
    rw [r5]
    split
    · exact nI_cl (by have := (hO.n2 p).2; omega)
    · rfl
  have z7 : ∀ i, zn T 7 i = if 4 * p ≤ i ∧ i < 4 * p + zn S 22 0 then zn S 7 i + 1 else zn S 7 i := fun i => by
    show (T 7 i).toNatClampNeg = _
    rw [r7]
    split
    · exact nI_cl (by have := (hO.n7 i).2; omega)
    · rfl
  have g6 : ∀ c i, i < zn S 7 c → T 6 (8 * c + i) = S 6 (8 * c + i) := fun c i hi => by
    have h8 := (hO.n7 c).2
    rw [r6, if_neg]
    rw [show (8 * c + i) / 8 = c by omega, show (8 * c + i) % 8 = i by omega]
    omega
  have gs : ∀ c, 4 * p ≤ c → c < 4 * p + zn S 22 0 → T 6 (8 * c + zn S 7 c) = -(S 22 2) := fun c h1 h2 => by
    have h8 := hc (c - 4 * p) (by omega)
    rw [show 4 * p + (c - 4 * p) = c by omega] at h8
    rw [r6, if_pos]
    rw [show (8 * c + zn S 7 c) / 8 = c by omega, show (8 * c + zn S 7 c) % 8 = zn S 7 c by omega]
    exact ⟨h1, h2, rfl⟩
  have gC : ∀ key c, q_C T key c = q_C S key c := fun key c => by
    show q_s (T 6) key (8 * c) (zn T 7 c) = _
    rw [z7]
    split
    · rename_i h
      rw [q_s_s, q_s_congr (fun i hi => g6 c i hi), gs c h.1 h.2, ux, q_e_0]
      rfl
    · exact q_s_congr (fun i hi => g6 c i hi)
  have zj : ∀ j, j ≠ 4 → j ≠ 5 → j ≠ 6 → j ≠ 7 → zn T j = zn S j := fun j a b c d => by
    funext i
    unfold zn
    rw [rj j a b c d]
  have n1 := rj 1 (by decide) (by decide) (by decide) (by decide)
  have n8 := rj 8 (by decide) (by decide) (by decide) (by decide)
  have n21 := rj 21 (by decide) (by decide) (by decide) (by decide)
  have n22 := rj 22 (by decide) (by decide) (by decide) (by decide)
  have m0 := zj 0 (by decide) (by decide) (by decide) (by decide)
  have m1 := zj 1 (by decide) (by decide) (by decide) (by decide)
  have m2 := zj 2 (by decide) (by decide) (by decide) (by decide)
  have m3 := zj 3 (by decide) (by decide) (by decide) (by decide)
  have m22 := zj 22 (by decide) (by decide) (by decide) (by decide)
  refine ⟨fun q hq => ?_, fun c hc => ?_, ?_, ?_⟩
  · obtain ⟨a1, a2, a3, a4⟩ := hE q hq
    rw [m0, m1, m2, m3, z5]
    refine ⟨a1, a2, ?_, a4⟩
    split
    · rename_i h; subst h; exact a1
    · exact a3
  · obtain ⟨a1, f, a2⟩ := hC c hc
    have zi : ∀ i, i < zn S 7 c → zn T 6 (8 * c + i) = zn S 6 (8 * c + i) := fun i hi => congrArg Int32.toNatClampNeg (g6 _ i hi)
    have hlt : ∀ i, i < zn T 7 c → 0 < T 6 (8 * c + i) → i < zn S 7 c := fun i hi hpos => by
      rw [z7] at hi
      split at hi
      · rename_i h
        by_cases e : i = zn S 7 c
        · subst e
          rw [gs c h.1 h.2] at hpos
          exact absurd hpos up
        · omega
      · exact hi
    rw [m22]
    refine ⟨fun i hi => ?_, f, fun i hi hpos => ?_⟩
    · by_cases h : i < zn S 7 c
      · rw [g6 _ i h, zi i h]
        exact a1 i h
      · rw [z7] at hi
        split at hi
        · rename_i h2
          obtain rfl : i = zn S 7 c := by omega
          rw [gs c h2.1 h2.2]
          exact ⟨u0, fun z => absurd z up⟩
        · exact absurd hi h
    · have hi2 := hlt i hi hpos
      rw [g6 _ i hi2] at hpos
      obtain ⟨b1, b2, b3⟩ := a2 i hi2 hpos
      rw [m1, zi i hi2, m2]
      refine ⟨b1, b2, fun j hj hp2 => ?_⟩
      rw [g6 _ j (by omega)] at hp2
      exact b3 j hj hp2
  · refine vT_frame (fun j j1 j2 => rj j (by omega) (by omega) (by omega) (by omega)) n21 n22 (fun k hk => ?_) (fun k hk => ?_) (fun k hk hu hs => ?_) hT
    · have h1 : q_t T k = q_t S k := q_m_congr (fun c _ => gC k c)
      rw [h1, q_R_congr n1 (o := zn S 2) (o' := zn T 2) (fun q _ => by rw [m2])]
    · exact q_R_congr n1 (fun q _ => by rw [m3])
    · refine q_R_congr n1 (fun q hq => ?_)
      rw [z5, if_neg]
      intro h
      subst h
      have ho := (hO.own k).2
      have h2 := ((d9 hu (4 * q + zown (zn S 22 0) k) (by omega)).2.2.2 (by rw [show (4 * q + zown (zn S 22 0) k) % 4 = zown (zn S 22 0) k by omega]; exact hs)).2
      rw [show (4 * q + zown (zn S 22 0) k) / 4 = q by omega, hc2] at h2
      exact absurd h2 (by decide)
  · intro hu key q hk hq h1 h2
    rw [n22] at hu
    rw [n21, m22] at h1
    have ho := hO.own key
    rw [m22]
    unfold vB1
    rw [n8, n22, n1, gC, m2, z5]
    by_cases e : q = p
    · subst e
      rw [if_pos rfl]
      refine ⟨fun h => ?_, fun h => ⟨zn S 7 (4 * q + zown (zn S 22 0) key), ?_, gs _ (by omega) (by omega), ?_⟩⟩
      · have h3 := (d8 _ h).2.2.2
        rw [show (4 * q + zown (zn S 22 0) key) / 4 = q by omega, hc2] at h3
        exact absurd h3 (by decide)
      · rw [z7, if_pos ⟨by omega, by omega⟩]
        omega
      · rw [q_s_congr (f := T 6) (g := S 6) (fun i hi => g6 _ i hi)]
    · rw [r4, if_neg e] at h2
      rw [if_neg e]
      obtain ⟨b1, b2⟩ := hB hu key q hk hq h1 h2
      refine ⟨b1, fun h => ?_⟩
      obtain ⟨i, i1, i2, i3⟩ := b2 h
      refine ⟨i, ?_, ?_, ?_⟩
      · rw [z7]
        split <;> omega
      · rw [g6 _ i i1]
        exact i2
      · rw [q_s_congr (f := T 6) (g := S 6) (fun j hj => g6 _ j (by omega))]
        exact i3
/-! an item less -/
theorem q_rem {S : zS} {c0 : Nat} (hO : zOK S) (hs : 0 < zn S 7 c0) : (∀ c, zn (sp_rem S c0) 7 c = if c = c0 then zn S 7 c0 - 1 else zn S 7 c) ∧ (∀ i, i < zn S 7 c0 - 1 → sp_rem S c0 6 (8 * c0 + i) = S 6 (8 * c0 + (i + 1))) ∧ (∀ c i, c ≠ c0 → i < zn S 7 c → sp_rem S c0 6 (8 * c + i) = S 6 (8 * c + i)) ∧ (∀ key n, n ≤ zn S 7 c0 - 1 → q_s (S 6) key (8 * c0) (n + 1) = q_e (S 6 (8 * c0)).toNatClampNeg key + q_s (sp_rem S c0 6) key (8 * c0) n) ∧ (∀ key c, q_C S key c = q_C (sp_rem S c0) key c + if c = c0 then q_e (S 6 (8 * c0)).toNatClampNeg key else 0) := by
  have z7 : ∀ c, zn (sp_rem S c0) 7 c = if c = c0 then zn S 7 c0 - 1 else zn S 7 c := fun c => by
    show (sp_rem S c0 7 c).toNatClampNeg = _
    rw [rem_at]
    by_cases e : c = c0
    · rw [if_pos ⟨rfl, e⟩, if_pos e]
      exact nI_cl (by have := (hO.n7 c0).2; omega)
    · rw [if_neg (fun z => e z.2), if_neg (by omega), if_neg e]
      rfl
  have g0 : ∀ i, i < zn S 7 c0 - 1 → sp_rem S c0 6 (8 * c0 + i) = S 6 (8 * c0 + (i + 1)) := fun i hi => by
    rw [rem_at, if_neg (by omega), if_pos ⟨rfl, by omega, by omega⟩]
    rfl
  have g1 : ∀ c i, c ≠ c0 → i < zn S 7 c → sp_rem S c0 6 (8 * c + i) = S 6 (8 * c + i) := fun c i hc hi => by
    have h1 := (hO.n7 c).2
    have h2 := (hO.n7 c0).2
    rw [rem_at, if_neg (by omega), if_neg (by omega)]
  have g2 : ∀ key n, n ≤ zn S 7 c0 - 1 → q_s (S 6) key (8 * c0) (n + 1) = q_e (S 6 (8 * c0)).toNatClampNeg key + q_s (sp_rem S c0 6) key (8 * c0) n := fun key n hn => by
    rw [q_s_front, q_s_congr (f := sp_rem S c0 6) (g := S 6) (b := 8 * c0) (d := 8 * c0 + 1) (fun i hi => by rw [g0 i (by omega)]; exact congrArg (S 6) (by omega))]
  refine ⟨z7, g0, g1, g2, fun key c => ?_⟩
  by_cases e : c = c0
  · subst e
    rw [if_pos rfl]
    show q_s (S 6) key (8 * c) (zn S 7 c) = q_s (sp_rem S c 6) key (8 * c) (zn (sp_rem S c) 7 c) + _
    rw [z7, if_pos rfl]
    have h := g2 key (zn S 7 c - 1) (Nat.le_refl _)
    rw [show zn S 7 c - 1 + 1 = zn S 7 c by omega] at h
    omega
  · rw [if_neg e]
    show q_s (S 6) key (8 * c) (zn S 7 c) = q_s (sp_rem S c0 6) key (8 * c) (zn (sp_rem S c0) 7 c) + 0
    rw [z7, if_neg e, q_s_congr (f := sp_rem S c0 6) (g := S 6) (fun i hi => g1 c i e hi)]
    rfl
theorem rem_j (S : zS) (c0 : Nat) (j : Nat) (h6 : j ≠ 6) (h7 : j ≠ 7) : sp_rem S c0 j = S j := by
  funext i
  rw [rem_at, if_neg (fun z => h7 z.1), if_neg (fun z => h6 z.1)]
theorem rem_z (S : zS) (c0 : Nat) (j : Nat) (h6 : j ≠ 6) (h7 : j ≠ 7) : zn (sp_rem S c0) j = zn S j := by
  funext i
  unfold zn
  rw [rem_j S c0 j h6 h7]
theorem vE_rem {S : zS} {c0 : Nat} (h : vE S) : vE (sp_rem S c0) := vE_congr (rem_j S c0 0 (by decide) (by decide)) (rem_j S c0 1 (by decide) (by decide)) (rem_j S c0 2 (by decide) (by decide)) (rem_j S c0 3 (by decide) (by decide)) (rem_j S c0 5 (by decide) (by decide)) h
theorem vC_rem {S : zS} {c0 : Nat} (hO : zOK S) (hs : 0 < zn S 7 c0) (h : vC S) : vC (sp_rem S c0) := by
  obtain ⟨z7, g0, g1, -, -⟩ := q_rem hO hs
  intro c hc
  obtain ⟨a1, f, a2⟩ := h c hc
  have m22 := rem_z S c0 22 (by decide) (by decide)
  have m1 := rem_z S c0 1 (by decide) (by decide)
  have m2 := rem_z S c0 2 (by decide) (by decide)
  by_cases e : c = c0
  · subst e
    have zs : zn (sp_rem S c) 7 c = zn S 7 c - 1 := by rw [z7, if_pos rfl]
    have zi : ∀ i, i < zn S 7 c - 1 → zn (sp_rem S c) 6 (8 * c + i) = zn S 6 (8 * c + (i + 1)) := fun i hi => congrArg Int32.toNatClampNeg (g0 i hi)
    rw [zs, m22]
    refine ⟨fun i hi => ?_, fun i => f (i + 1), fun i hi hpos => ?_⟩
    · rw [g0 i hi, zi i hi]
      exact a1 (i + 1) (by omega)
    · rw [zs] at hi
      rw [g0 i hi] at hpos
      obtain ⟨b1, b2, b3⟩ := a2 (i + 1) (by omega) hpos
      rw [m1, m2, zi i hi]
      refine ⟨b1, b2, fun j hj hp2 => ?_⟩
      rw [g0 j (by omega)] at hp2
      exact b3 (j + 1) (by omega) hp2
  · have zs : zn (sp_rem S c0) 7 c = zn S 7 c := by rw [z7, if_neg e]
    have zi : ∀ i, i < zn S 7 c → zn (sp_rem S c0) 6 (8 * c + i) = zn S 6 (8 * c + i) := fun i hi => congrArg Int32.toNatClampNeg (g1 c i e hi)
    rw [zs, m22]
    refine ⟨fun i hi => ?_, f, fun i hi hpos => ?_⟩
    · rw [g1 c i e hi, zi i hi]
      exact a1 i hi
    · rw [zs] at hi
      rw [g1 c i e hi] at hpos
      obtain ⟨b1, b2, b3⟩ := a2 i hi hpos
      rw [m1, m2, zi i hi]
      refine ⟨b1, b2, fun j hj hp2 => ?_⟩
      rw [g1 c j e (by omega)] at hp2
      exact b3 j hj hp2
/-- what isn't the barrier under way is taken -/
theorem vB_rem {S : zS} {c0 : Nat} (hO : zOK S) (hs : 0 < zn S 7 c0) (hb : ¬ S 8 c0 = nI 1) (hx : ¬ S 22 2 = (-1) → ¬ S 6 (8 * c0) = -(S 22 2)) (h : vB S) : vB (sp_rem S c0) := by
  obtain ⟨z7, g0, g1, g2, g3⟩ := q_rem hO hs
  intro hu key q hk hq h1 h2
  rw [rem_j S c0 22 (by decide) (by decide)] at hu
  rw [rem_j S c0 21 (by decide) (by decide), rem_z S c0 22 (by decide) (by decide)] at h1
  rw [rem_j S c0 4 (by decide) (by decide)] at h2
  obtain ⟨b1, b2⟩ := h hu key q hk hq h1 h2
  rw [rem_z S c0 22 (by decide) (by decide)]
  generalize 4 * q + zown (zn S 22 0) key = c at b1 b2 ⊢
  have hC := g3 key c
  unfold vB1
  rw [rem_j S c0 8 (by decide) (by decide), rem_j S c0 22 (by decide) (by decide), rem_j S c0 1 (by decide) (by decide), rem_z S c0 5 (by decide) (by decide), rem_z S c0 2 (by decide) (by decide)]
  by_cases e : c = c0
  · subst e
    rw [if_pos rfl] at hC
    refine ⟨fun z => absurd z hb, fun z => ?_⟩
    obtain ⟨i, i1, i2, i3⟩ := b2 z
    have i0 : i ≠ 0 := fun w => hx hu (by rw [w] at i2; exact i2)
    obtain ⟨i, rfl⟩ : ∃ t, i = t + 1 := ⟨i - 1, by omega⟩
    refine ⟨i, ?_, ?_, ?_⟩
    · rw [z7, if_pos rfl]; omega
    · rw [g0 i (by omega)]; exact i2
    · have := g2 key i (by omega)
      omega
  · rw [if_neg e] at hC
    refine ⟨fun z => ?_, fun z => ?_⟩
    · have := b1 z
      omega
    · obtain ⟨i, i1, i2, i3⟩ := b2 z
      refine ⟨i, ?_, ?_, ?_⟩
      · rw [z7, if_neg e]; exact i1
      · rw [g1 c i e i1]; exact i2
      · rw [q_s_congr (f := sp_rem S c0 6) (g := S 6) (fun j hj => g1 c j e (by omega))]
        omega
/-- the barrier under way is taken, and blocks -/
theorem vB_blk {S : zS} {p w : Nat} (hO : zOK S) (hw : w < 4) (hs : 0 < zn S 7 (4 * p + w)) (hb : ¬ S 8 (4 * p + w) = nI 1) (hx : S 6 (8 * (4 * p + w)) = -(S 22 2)) (hx0 : (S 6 (8 * (4 * p + w))).toNatClampNeg = 0) (hone : ∀ i, i < zn S 7 (4 * p + w) → S 6 (8 * (4 * p + w) + i) = -(S 22 2) → i = 0) (h : vB S) : vB (sp_blk (sp_rem S (4 * p + w)) p w) := by
  obtain ⟨z7, g0, g1, g2, g3⟩ := q_rem hO hs
  have bj : ∀ j, j ≠ 8 → sp_blk (sp_rem S (4 * p + w)) p w j = sp_rem S (4 * p + w) j := fun j hj => by
    funext i
    rw [blk_at, if_neg (fun z => hj z.1)]
  have b8 : ∀ i, sp_blk (sp_rem S (4 * p + w)) p w 8 i = if i = 4 * p + w then nI 1 else S 8 i := fun i => by
    rw [blk_at, rem_j S _ 8 (by decide) (by decide)]
    grind
  have bz : ∀ j, j ≠ 8 → zn (sp_blk (sp_rem S (4 * p + w)) p w) j = zn (sp_rem S (4 * p + w)) j := fun j hj => by
    funext i
    unfold zn
    rw [bj j hj]
  intro hu key q hk hq h1 h2
  rw [bj 22 (by decide), rem_j S _ 22 (by decide) (by decide)] at hu
  rw [bj 21 (by decide), rem_j S _ 21 (by decide) (by decide), bz 22 (by decide), rem_z S _ 22 (by decide) (by decide)] at h1
  rw [bj 4 (by decide), rem_j S _ 4 (by decide) (by decide)] at h2
  obtain ⟨b1, b2⟩ := h hu key q hk hq h1 h2
  have ho := (hO.own key).2
  have hC := g3 key (4 * q + zown (zn S 22 0) key)
  rw [bz 22 (by decide), rem_z S _ 22 (by decide) (by decide)]
  have hCb : q_C (sp_blk (sp_rem S (4 * p + w)) p w) key (4 * q + zown (zn S 22 0) key) = q_C (sp_rem S (4 * p + w)) key (4 * q + zown (zn S 22 0) key) := by
    unfold q_C
    rw [bj 6 (by decide), bz 7 (by decide)]
  unfold vB1
  rw [hCb, b8, bj 22 (by decide), bj 6 (by decide), bj 1 (by decide), bz 7 (by decide), bz 5 (by decide), bz 2 (by decide), rem_j S _ 22 (by decide) (by decide), rem_j S _ 1 (by decide) (by decide), rem_z S _ 5 (by decide) (by decide), rem_z S _ 2 (by decide) (by decide)]
  by_cases e : 4 * q + zown (zn S 22 0) key = 4 * p + w
  · have eq : q = p := by omega
    have ew : zown (zn S 22 0) key = w := by omega
    subst eq
    rw [ew] at b1 b2 hC ⊢
    rw [if_pos rfl] at hC
    rw [if_pos rfl]
    refine ⟨fun _ => ?_, fun z => absurd z (by decide)⟩
    obtain ⟨i, i1, i2, i3⟩ := b2 ((hO.b8 _).elim id (fun z => absurd z hb))
    obtain rfl := hone i i1 i2
    rw [hx0, q_e_0] at hC
    have z0 : q_s (S 6) key (8 * (4 * q + w)) 0 = 0 := rfl
    omega
  · rw [if_neg e] at hC
    rw [if_neg e]
    refine ⟨fun z => ?_, fun z => ?_⟩
    · have := b1 z
      omega
    · obtain ⟨i, i1, i2, i3⟩ := b2 z
      refine ⟨i, ?_, ?_, ?_⟩
      · rw [z7, if_neg e]; exact i1
      · rw [g1 _ i e i1]; exact i2
      · rw [q_s_congr (f := sp_rem S (4 * p + w) 6) (g := S 6) (fun j hj => g1 _ j e (by omega))]
        omega
