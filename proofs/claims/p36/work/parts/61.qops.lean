/-! an item more in a channel -/
theorem q_put {S T : zS} {c0 : Nat} {x : Int32} (hO : zOK S) (h6 : ∀ i, T 6 i = if i = 8 * c0 + zn S 7 c0 then x else S 6 i) (h7 : ∀ i, T 7 i = if i = c0 then nI (zn S 7 c0 + 1) else S 7 i) (hn : zn S 7 c0 < 8) : (∀ c, zn T 7 c = if c = c0 then zn S 7 c0 + 1 else zn S 7 c) ∧ (∀ c i, i < zn S 7 c → T 6 (8 * c + i) = S 6 (8 * c + i)) ∧ ∀ key c, q_C T key c = q_C S key c + if c = c0 then q_e x.toNatClampNeg key else 0 := by
  have z7 : ∀ c, zn T 7 c = if c = c0 then zn S 7 c0 + 1 else zn S 7 c := fun c => by
    show (T 7 c).toNatClampNeg = _
    rw [h7]
    split
    · exact nI_cl (show zn S 7 c0 + 1 ≤ 31100 by omega)
    · rfl
  have g6 : ∀ c i, i < zn S 7 c → T 6 (8 * c + i) = S 6 (8 * c + i) := fun c i hi => by
    have h8 := (hO.n7 c).2
    rw [h6, if_neg]
    by_cases e : c = c0
    · subst e; omega
    · omega
  refine ⟨z7, g6, fun key c => ?_⟩
  show q_s (T 6) key (8 * c) (zn T 7 c) = _
  rw [z7]
  by_cases e : c = c0
  · subst e
    rw [if_pos rfl, if_pos rfl, q_s_s, q_s_congr (fun i hi => g6 c i hi), h6, if_pos rfl]
  · rw [if_neg e, if_neg e, q_s_congr (fun i hi => g6 c i hi)]
    rfl
theorem z_pos0 {x : Int32} {n : Nat} (h : x.toNatClampNeg = n) (hn : 1 ≤ n) : ¬ x = 0 := fun z => by
  rw [z] at h
  have : (0 : Int32).toNatClampNeg = 0 := by decide
  omega
set_option maxHeartbeats 1000000 in
/-- an event is read -/
theorem vI_read {S : zS} (hO : zOK S) (I : vI S) {p : Nat} (hp : p < 4) (hc : zcanR S p) : vI (sp_read S p) := by
  obtain ⟨hE, hC, hT, hB⟩ := I
  have hw4 : zrw S p < 4 := (hO.own (zev S p / 1000)).2
  have hwd : zown (zn S 22 0) (zev S p / 1000) = zrw S p := rfl
  obtain ⟨hc1, hc2⟩ := hc
  have l60 := (hO.n0 p).2
  have hx : (nI (zev S p)).toNatClampNeg = zev S p := nI_cl (hO.n1 _).2
  have hev : vEv (zev S p) := (hE p hp).2.2.2 _ hc1
  have qp : ∀ k, q_s (S 1) k (60 * p) (zn S 2 p + 1) = q_s (S 1) k (60 * p) (zn S 2 p) + q_e (zev S p) k := fun k => rfl
  have ev1 : zn S 1 (60 * p + zn S 2 p) = zev S p := rfl
  have r2 : ∀ i, sp_read S p 2 i = if i = p then nI (zn S 2 p + 1) else S 2 i := fun i => rfl
  have r6 : ∀ i, sp_read S p 6 i = if i = 8 * (4 * p + zrw S p) + zn S 7 (4 * p + zrw S p) then nI (zev S p) else S 6 i := fun i => rfl
  have r7 : ∀ i, sp_read S p 7 i = if i = 4 * p + zrw S p then nI (zn S 7 (4 * p + zrw S p) + 1) else S 7 i := fun i => rfl
  have rj : ∀ j, j ≠ 2 → j ≠ 6 → j ≠ 7 → sp_read S p j = S j := fun j a b c => (zU_n a).trans ((zU_n c).trans (zU_n b))
  generalize sp_read S p = T at r2 r6 r7 rj ⊢
  generalize zrw S p = w at hw4 hwd hc2 r6 r7
  generalize zev S p = e at hwd hx hev qp ev1 r6
  have hc0 : 4 * p + w < 16 := by omega
  obtain ⟨z7, g6, gC⟩ := q_put hO r6 r7 hc2
  have z2 : ∀ i, zn T 2 i = if i = p then zn S 2 p + 1 else zn S 2 i := fun i => by
    show (T 2 i).toNatClampNeg = _
    rw [r2]
    split
    · exact nI_cl (show zn S 2 p + 1 ≤ 31100 by omega)
    · rfl
  have zj : ∀ j, j ≠ 2 → j ≠ 6 → j ≠ 7 → zn T j = zn S j := fun j a b c => by
    funext i
    unfold zn
    rw [rj j a b c]
  have n1 := rj 1 (by decide) (by decide) (by decide)
  have n4 := rj 4 (by decide) (by decide) (by decide)
  have n8 := rj 8 (by decide) (by decide) (by decide)
  have n21 := rj 21 (by decide) (by decide) (by decide)
  have n22 := rj 22 (by decide) (by decide) (by decide)
  have m0 := zj 0 (by decide) (by decide) (by decide)
  have m1 := zj 1 (by decide) (by decide) (by decide)
  have m3 := zj 3 (by decide) (by decide) (by decide)
  have m5 := zj 5 (by decide) (by decide) (by decide)
  have m22 := zj 22 (by decide) (by decide) (by decide)
  have qe0 : ∀ k, ¬ zown (zn S 22 0) k = w → q_e e k = 0 := fun k h => by
    unfold q_e
    rw [if_neg]
    intro z
    exact h (by rw [← z]; exact hwd)
  have gD : ∀ k q, q < 4 → q_C T k (4 * q + zown (zn S 22 0) k) = q_C S k (4 * q + zown (zn S 22 0) k) + if q = p then q_e e k else 0 := fun k q hq => by
    have ho := (hO.own k).2
    rw [gC, hx]
    by_cases h : q = p
    · subst h
      rw [if_pos rfl]
      by_cases h2 : zown (zn S 22 0) k = w
      · rw [if_pos (by omega)]
      · rw [if_neg (by omega), qe0 k h2]
    · rw [if_neg (by omega), if_neg h]
  have gR : ∀ k q, q_s (S 1) k (60 * q) (zn T 2 q) = q_s (S 1) k (60 * q) (zn S 2 q) + if q = p then q_e e k else 0 := fun k q => by
    rw [z2]
    by_cases h : q = p
    · subst h
      rw [if_pos rfl, if_pos rfl, qp]
    · rw [if_neg h, if_neg h]
      rfl
  refine ⟨fun q hq => ?_, fun c hc => ?_, ?_, ?_⟩
  · obtain ⟨a1, a2, a3, a4⟩ := hE q hq
    rw [m0, m1, m3, m5, z2]
    refine ⟨?_, a2, a3, a4⟩
    split
    · rename_i h; subst h; omega
    · exact a1
  · obtain ⟨a1, f, a2⟩ := hC c hc
    by_cases h : c = 4 * p + w
    · subst h
      have hd : (4 * p + w) / 4 = p := by omega
      have hm : (4 * p + w) % 4 = w := by omega
      have zs : zn T 7 (4 * p + w) = zn S 7 (4 * p + w) + 1 := by rw [z7, if_pos rfl]
      have hl : T 6 (8 * (4 * p + w) + zn S 7 (4 * p + w)) = nI e := by rw [r6, if_pos rfl]
      have hz : zn T 6 (8 * (4 * p + w) + zn S 7 (4 * p + w)) = e := by
        show (T 6 _).toNatClampNeg = _
        rw [hl, hx]
      have zi : ∀ i, i < zn S 7 (4 * p + w) → zn T 6 (8 * (4 * p + w) + i) = zn S 6 (8 * (4 * p + w) + i) := fun i hi => congrArg Int32.toNatClampNeg (g6 _ i hi)
      rw [zs, m22]
      refine ⟨fun i hi => ?_, fun i => if i = zn S 7 (4 * p + w) then zn S 2 p else f i, fun i hi hpos => ?_⟩
      · by_cases hi2 : i < zn S 7 (4 * p + w)
        · rw [g6 _ i hi2, zi i hi2]
          exact a1 i hi2
        · obtain rfl : i = zn S 7 (4 * p + w) := by omega
          refine ⟨z_pos0 hz (by unfold vEv at hev; omega), fun _ => ?_⟩
          rw [hz, hm]
          exact hwd
      · rw [zs] at hi
        rw [hd, z2, if_pos rfl, m1]
        show (if i = zn S 7 (4 * p + w) then zn S 2 p else f i) < _ ∧ zn S 1 (60 * p + (if i = zn S 7 (4 * p + w) then zn S 2 p else f i)) = _ ∧ ∀ j, j < i → 0 < T 6 (8 * (4 * p + w) + j) → (if j = zn S 7 (4 * p + w) then zn S 2 p else f j) < (if i = zn S 7 (4 * p + w) then zn S 2 p else f i)
        by_cases hi2 : i < zn S 7 (4 * p + w)
        · rw [g6 _ i hi2] at hpos
          obtain ⟨b1, b2, b3⟩ := a2 i hi2 hpos
          rw [hd] at b1 b2
          rw [if_neg (by omega), zi i hi2]
          refine ⟨by omega, b2, fun j hj hp2 => ?_⟩
          rw [if_neg (by omega)]
          rw [g6 _ j (by omega)] at hp2
          exact b3 j hj hp2
        · obtain rfl : i = zn S 7 (4 * p + w) := by omega
          rw [if_pos rfl, hz]
          refine ⟨by omega, ev1, fun j hj hp2 => ?_⟩
          rw [if_neg (by omega)]
          rw [g6 _ j hj] at hp2
          have b1 := (a2 j hj hp2).1
          rw [hd] at b1
          exact b1
    · have zs : zn T 7 c = zn S 7 c := by rw [z7, if_neg h]
      have zi : ∀ i, i < zn S 7 c → zn T 6 (8 * c + i) = zn S 6 (8 * c + i) := fun i hi => congrArg Int32.toNatClampNeg (g6 _ i hi)
      rw [zs, m22]
      refine ⟨fun i hi => ?_, f, fun i hi hpos => ?_⟩
      · rw [g6 _ i hi, zi i hi]
        exact a1 i hi
      · rw [zs] at hi
        rw [g6 _ i hi] at hpos
        obtain ⟨b1, b2, b3⟩ := a2 i hi hpos
        rw [m1, zi i hi, z2]
        refine ⟨?_, b2, fun j hj hp2 => ?_⟩
        · split
          · rename_i h2; rw [h2] at b1; omega
          · exact b1
        · rw [g6 _ j (by omega)] at hp2
          exact b3 j hj hp2
  · refine vT_frame (fun j j1 j2 => rj j (by omega) (by omega) (by omega)) n21 n22 (fun k hk => ?_) (fun k hk => ?_) (fun k hk _ _ => ?_) hT
    · have ho := (hO.own k).2
      have h1 : q_t T k + q_C S k (4 * p + w) = q_t S k + q_C T k (4 * p + w) := q_m_upd hc0 (fun c _ h => by rw [gC, if_neg h]; rfl)
      have h2 : q_R T (zn T 2) k + q_s (S 1) k (60 * p) (zn S 2 p) = q_R S (zn S 2) k + q_s (S 1) k (60 * p) (zn T 2 p) := by
        refine Eq.trans ?_ (q_m_upd (F := fun q => q_s (S 1) k (60 * q) (zn T 2 q)) (G := fun q => q_s (S 1) k (60 * q) (zn S 2 q)) hp (fun q _ h => ?_))
        · unfold q_R
          rw [n1]
        · show q_s (S 1) k (60 * q) (zn T 2 q) = _
          rw [gR, if_neg h]
          rfl
      have h3 := gC k (4 * p + w)
      have h4 := gR k p
      rw [if_pos rfl, hx] at h3
      rw [if_pos rfl] at h4
      omega
    · exact q_R_congr n1 (fun q _ => by rw [m3])
    · exact q_R_congr n1 (fun q _ => by rw [m5])
  · intro hu k q hk hq h1 h2
    rw [n22] at hu
    rw [n21, m22] at h1
    rw [n4] at h2
    rw [m22]
    obtain ⟨b1, b2⟩ := hB hu k q hk hq h1 h2
    have d1 := gD k q hq
    have d2 := gR k q
    unfold vB1
    rw [n8, n22, n1, m5, d1, d2]
    refine ⟨fun h => ?_, fun h => ?_⟩
    · have := b1 h
      omega
    · obtain ⟨i, i1, i2, i3⟩ := b2 h
      refine ⟨i, ?_, ?_, ?_⟩
      · rw [z7]
        split
        · rename_i h3; rw [h3] at i1; omega
        · exact i1
      · rw [g6 _ i i1]
        exact i2
      · rw [q_s_congr (f := T 6) (g := S 6) (fun j hj => g6 _ j (by omega))]
        omega
