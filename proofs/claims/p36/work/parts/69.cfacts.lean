/-! channels: what the law counts -/
def s_g (W w : Nat) : Nat := q_m (fun u => (10 * sp_gf W u 8 + sp_go W u 8) % 10) w
theorem s_g_8 {W : Nat} (h1 : 1 ≤ W) (h4 : W ≤ 4) : s_g W W = 8 := by
  rcases (show W = 1 ∨ W = 2 ∨ W = 3 ∨ W = 4 by omega) with rfl | rfl | rfl | rfl <;> decide +kernel
theorem gf_le (W w : Nat) : ∀ t, sp_gf W w t ≤ 8
  | 0 => Nat.le_refl 8
  | t + 1 => by
    have := gf_le W w t
    unfold sp_gf
    split <;> omega
theorem go_le (W w : Nat) : ∀ t, sp_go W w t ≤ t
  | 0 => Nat.le_refl 0
  | t + 1 => by
    have := go_le W w t
    unfold sp_go
    split <;> omega
theorem gs_le (W w : Nat) : 10 * sp_gf W w 8 + sp_go W w 8 ≤ 88 := by
  have h1 := gf_le W w 8
  have h2 := go_le W w 8
  omega
def s_b (S : zS) (w p : Nat) : Nat := q_m (fun q => if S 8 (4 * q + w) = nI 1 then 1 else 0) p
theorem s_b_1 {S : zS} {w p : Nat} (h : S 8 (4 * p + w) = nI 1) : s_b S w (p + 1) = s_b S w p + 1 := by
  unfold s_b
  rw [q_m_s]
  exact congrArg (_ + ·) (if_pos h)
theorem s_b_0 {S : zS} {w p : Nat} (h : ¬ S 8 (4 * p + w) = nI 1) : s_b S w (p + 1) = s_b S w p + 0 := by
  unfold s_b
  rw [q_m_s]
  exact congrArg (_ + ·) (if_neg h)
theorem s_b_3 {S : zS} {w : Nat} (h : ¬ zallB S w) : s_b S w 4 ≤ 3 := by
  have key : ∀ n, s_b S w n ≤ n ∧ (s_b S w n = n → ∀ q, q < n → S 8 (4 * q + w) = nI 1) := fun n => by
    induction n with
    | zero => exact ⟨Nat.le_refl 0, fun _ q hq => absurd hq (Nat.not_lt_zero q)⟩
    | succ n ih =>
      by_cases e : S 8 (4 * n + w) = nI 1
      · rw [s_b_1 e]
        refine ⟨by omega, fun z q hq => ?_⟩
        by_cases e2 : q = n
        · rw [e2]; exact e
        · exact ih.2 (by omega) q (by omega)
      · rw [s_b_0 e]
        exact ⟨by omega, fun z => by omega⟩
  have k4 := key 4
  by_cases e : s_b S w 4 = 4
  · exact absurd (k4.2 e) h
  · omega
theorem s_b_00 {S : zS} {w : Nat} (h : ∀ q, q < 4 → ¬ S 8 (4 * q + w) = nI 1) : s_b S w 4 = 0 := by
  have key : ∀ n, n ≤ 4 → s_b S w n = 0 := fun n => by
    induction n with
    | zero => intro _; rfl
    | succ n ih =>
      intro hn
      rw [s_b_0 (h n (by omega)), ih (by omega)]
  exact key 4 (Nat.le_refl _)
def s_r (S : zS) (c j : Nat) : Nat := q_m (fun i => if S 6 (8 * c + i) < 0 ∧ S 6 (8 * c + i) = -(S 22 2) then 1 else 0) j
theorem s_r_1 {S : zS} {c j : Nat} (h : S 6 (8 * c + j) < 0 ∧ S 6 (8 * c + j) = -(S 22 2)) : s_r S c (j + 1) = s_r S c j + 1 := by
  unfold s_r
  rw [q_m_s]
  exact congrArg (_ + ·) (if_pos h)
theorem s_r_0 {S : zS} {c j : Nat} (h : ¬ (S 6 (8 * c + j) < 0 ∧ S 6 (8 * c + j) = -(S 22 2))) : s_r S c (j + 1) = s_r S c j + 0 := by
  unfold s_r
  rw [q_m_s]
  exact congrArg (_ + ·) (if_neg h)
theorem s_r_z {S : zS} {c : Nat} : ∀ n, (∀ i, i < n → ¬ (S 6 (8 * c + i) < 0 ∧ S 6 (8 * c + i) = -(S 22 2))) → s_r S c n = 0
  | 0, _ => rfl
  | n + 1, h => by rw [s_r_0 (h n (by omega)), s_r_z n (fun i hi => h i (by omega))]
theorem s_r_zno {S : zS} {c : Nat} (h : zno S c) : s_r S c (zn S 7 c) = 0 := s_r_z _ (fun i hi z => h i hi z.2)
theorem s_r_none {S : zS} {c : Nat} (h : S 22 2 = (-1)) (n : Nat) : s_r S c n = 0 := s_r_z _ (fun i _ z => by
  have h2 : -(S 22 2) = 1 := by rw [h]; decide
  rw [h2] at z
  have h3 := z.1
  rw [z.2] at h3
  exact absurd h3 (by decide))
theorem s_r_le {S : zS} {c : Nat} : ∀ n, (∀ i j, i < n → j < n → S 6 (8 * c + i) = -(S 22 2) → S 6 (8 * c + j) = -(S 22 2) → i = j) → s_r S c n ≤ 1
  | 0, _ => Nat.zero_le _
  | n + 1, h => by
    have ih := s_r_le n (fun i j hi hj => h i j (by omega) (by omega))
    by_cases e : S 6 (8 * c + n) < 0 ∧ S 6 (8 * c + n) = -(S 22 2)
    · rw [s_r_1 e, s_r_z n (fun i hi z => by have := h i n (by omega) (by omega) z.2 e.2; omega)]
      exact Nat.le_refl 1
    · rw [s_r_0 e]
      exact ih
/-- blocked: its barrier was sent, isn't there any more, the worker has not sealed -/
theorem vD_blk {k : Nat} {S : zS} (D : zDeep k S) {p w : Nat} (hw : w < 4) (h : S 8 (4 * p + w) = nI 1) : zno S (4 * p + w) ∧ ¬ S 22 2 = (-1) ∧ S 4 p = nI 1 ∧ S 21 w = (-1) := by
  obtain ⟨-, -, -, -, -, -, d7, d8, d9, -⟩ := D
  have hu : ¬ S 22 2 = (-1) := fun z => by
    rw [d7 z] at h
    exact absurd h (by decide)
  obtain ⟨e1, e2, e3, e4⟩ := d8 _ h
  rw [show (4 * p + w) / 4 = p by omega] at e4
  rw [show (4 * p + w) % 4 = w by omega] at e3
  exact ⟨(d9 hu _ e1).2.2.1 h, hu, e4, e3⟩
theorem vD_one {k : Nat} {S : zS} (D : zDeep k S) {c : Nat} (hc : c < 16) (hu : ¬ S 22 2 = (-1)) : s_r S c (zn S 7 c) ≤ 1 := by
  obtain ⟨-, -, -, -, -, -, -, -, d9, -⟩ := D
  exact s_r_le _ (d9 hu c hc).1
theorem vD_nos {k : Nat} {S : zS} (hO : zOK S) (D : zDeep k S) {p w : Nat} (hp : p < 4) (hw : w < 4) (hu : ¬ S 22 2 < 0) (h : ¬ (¬ S 22 2 = (-1) ∧ S 4 p = nI 1)) : s_r S (4 * p + w) (zn S 7 (4 * p + w)) = 0 := by
  obtain ⟨-, -, -, -, -, -, -, -, d9, -⟩ := D
  have hu2 : ¬ S 22 2 = (-1) := fun z => hu (by rw [z]; decide)
  refine s_r_zno ((d9 hu2 (4 * p + w) (by omega)).2.1 ?_)
  rw [show (4 * p + w) / 4 = p by omega]
  exact (hO.b4 p).elim id (fun z => absurd ⟨hu2, z⟩ h)
theorem vD_s1 {k : Nat} {S : zS} (D : zDeep k S) {w : Nat} (hw : w < 4) (hu : ¬ S 22 2 < 0) (h : ¬ S 21 w < 0) : S 21 w = S 22 2 := by
  obtain ⟨-, -, -, -, d5, -⟩ := D
  rcases d5 w hw with z | z
  · exact absurd (by rw [z]; decide) h
  · exact z.2.1 (fun y => hu (by rw [y]; decide))
theorem vD_s2 {k : Nat} {S : zS} (D : zDeep k S) (hk : k ≤ 2000) {w : Nat} (hw : w < 4) (hu : S 22 2 < 0) (h : ¬ S 21 w < 0) : S 21 w = S 22 3 := by
  have hu2 := vD_neg2 D hk hu
  obtain ⟨-, -, -, -, d5, -⟩ := D
  rcases d5 w hw with z | z
  · exact absurd (by rw [z]; decide) h
  · exact z.2.2 hu2
theorem vD_lt {k : Nat} {S : zS} (D : zDeep k S) (hk : k ≤ 900) (hu : 0 ≤ S 22 2) : S 22 3 < S 22 2 := by
  have hu2 : ¬ S 22 2 = (-1) := fun z => by
    rw [z] at hu
    exact absurd hu (by decide)
  obtain ⟨q1, q2, q3⟩ := q_under D (by omega) hu2
  obtain ⟨d1, d2, d3, d4, -⟩ := D
  have h4 := d4 hu2
  rcases d3 with z | ⟨c, c1, c2, c3⟩
  · rw [z, q1]
    exact Int32.not_le.mp (fun y => nI_pos (n := zn S 22 1) (by omega) (Int32.lt_of_le_of_lt y (by decide)))
  · rw [q1, c3] at h4 ⊢
    refine nI_lt ?_ (by omega)
    by_cases e : c = zn S 22 1
    · exact absurd (congrArg nI e) h4
    · omega
theorem vD_lt2 {k : Nat} {S : zS} (D : zDeep k S) (hk : k ≤ 900) : S 22 3 < nI 1000 := by
  obtain ⟨d1, d2, d3, -⟩ := D
  rcases d3 with z | ⟨c, c1, c2, c3⟩
  · rw [z]; decide
  · rw [c3]
    exact nI_lt (by omega) (by decide)
