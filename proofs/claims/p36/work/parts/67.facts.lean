/-! what the law's checks say of a state -/
theorem q_m_add (F G : Nat → Nat) : ∀ n, q_m (fun i => F i + G i) n = q_m F n + q_m G n
  | 0 => rfl
  | n + 1 => by
    rw [q_m_s, q_m_s, q_m_s, q_m_add F G n]
    omega
theorem q_m_zero : ∀ n, q_m (fun _ => 0) n = 0
  | 0 => rfl
  | n + 1 => by rw [q_m_s, q_m_zero n]
theorem q_m_swap (G : Nat → Nat → Nat) (n : Nat) : ∀ m, q_m (fun w => q_m (fun k => G w k) n) m = q_m (fun k => q_m (fun w => G w k) m) n
  | 0 => (q_m_zero n).symm
  | m + 1 => by
    rw [q_m_s, q_m_swap G n m, ← q_m_add]
    rfl
theorem q_m_one (j x : Nat) : ∀ n, q_m (fun i => if j = i then x else 0) n = if j < n then x else 0
  | 0 => by simp [q_m]
  | n + 1 => by
    rw [q_m_s, q_m_one j x n]
    by_cases h : j = n
    · subst h
      simp
    · have h2 : j < n + 1 ↔ j < n := by omega
      simp [h, h2]
theorem q_m_mono {F G : Nat → Nat} : ∀ {n : Nat}, (∀ i, i < n → F i ≤ G i) → q_m F n ≤ q_m G n
  | 0, _ => Nat.le_refl 0
  | n + 1, h => by
    have h1 := q_m_mono (n := n) (fun i hi => h i (by omega))
    have h2 := h n (by omega)
    rw [q_m_s, q_m_s]
    omega
def s_k (S : zS) (key p : Nat) : Nat := q_m (fun q => q_s (S 1) key (60 * q) (zn S 3 q)) p
theorem s_k_s (S : zS) (key p : Nat) : s_k S key (p + 1) = s_k S key p + q_s (S 1) key (60 * p) (zn S 3 p) := rfl
def s_op (S : zS) (w : Nat) : Nat := q_m (fun key => if zown (zn S 22 0) key = w then zn S 11 key else 0) 32
def s_o (S : zS) (w : Nat) : Nat := q_m (s_op S) w
theorem op_q {S : zS} (w : Nat) (h : ∀ key, key < 32 → S 11 key = nI (zn S 11 key)) : ∀ t, t ≤ 32 → sp_op S w t = nI (q_m (fun key => if zown (zn S 22 0) key = w then zn S 11 key else 0) t)
  | 0, _ => rfl
  | t + 1, ht => by
    have h1 := h t (by omega)
    unfold sp_op
    rw [op_q w h t (by omega), q_m_s]
    by_cases e : zown (zn S 22 0) t = w
    · rw [if_pos e, h1, nI_add]
      show nI _ = nI (_ + if zown (zn S 22 0) t = w then zn S 11 t else 0)
      rw [if_pos e]
    · rw [if_neg e]
      show nI _ = nI (_ + if zown (zn S 22 0) t = w then zn S 11 t else 0)
      rw [if_neg e]
      rfl
theorem cm_q {S : zS} (h : ∀ key, key < 32 → S 19 key = nI (zn S 19 key)) : ∀ t, t ≤ 32 → sp_cm S t = nI (q_m (zn S 19) t)
  | 0, _ => rfl
  | t + 1, ht => by
    have h1 := h t (by omega)
    unfold sp_cm
    rw [cm_q h t (by omega), q_m_s, h1, nI_add]
theorem s_o_all {S : zS} (hO : zOK S) : s_o S (zn S 22 0) = q_m (zn S 11) 32 := by
  unfold s_o s_op
  have h := q_m_swap (fun w key => if zown (zn S 22 0) key = w then zn S 11 key else 0) 32 (zn S 22 0)
  refine h.trans (q_m_congr (fun key _ => ?_))
  show q_m (fun w => if zown (zn S 22 0) key = w then zn S 11 key else 0) (zn S 22 0) = zn S 11 key
  rw [q_m_one, if_pos (hO.own key).1]
theorem zown_mod (W key : Nat) : zown W key = zown W (key % 8) := by
  unfold zown
  rw [Nat.mod_mod]
/-- numbers of a key, as the checks compare them -/
theorem vT_cmp {S : zS} {key : Nat} (hO : zOK S) (hE : vE S) (h : vT1 S key) : zn S 10 key + q_t S key = q_R S (zn S 2) key ∧ zn S 18 key = s_k S key 4 ∧ zn S 20 key ≤ zn S 10 key ∧ zn S 19 key ≤ zn S 9 key ∧ zn S 9 key ≤ zn S 10 key ∧ zn S 10 key ≤ 100 * zn S 9 key ∧ zn S 10 key + q_t S key ≤ 24000 ∧ zn S 18 key ≤ 24000 := by
  have h2 := vT_le hO hE h
  have h3 := q_R_le (key := key) hO hE (o := zn S 2) (fun p hp => (hE p hp).1)
  obtain ⟨-, a2, a3, a4, a5, -, -⟩ := h
  unfold vL at a3
  refine ⟨a4, a5, by omega, by omega, by omega, by omega, by omega, by omega⟩
/-- sink and open ones beside all that was counted -/
theorem vT_all {S : zS} (hO : zOK S) (I : vI S) : q_m (zn S 19) 32 + s_o S (zn S 22 0) ≤ q_m (zn S 9) 32 ∧ q_m (zn S 9) 32 ≤ 24000 * 32 := by
  obtain ⟨hE, -, hT, -⟩ := I
  rw [s_o_all hO, ← q_m_add]
  refine ⟨q_m_mono (fun key hk => ?_), q_m_le (fun key hk => ?_)⟩
  · have h := (hT key hk).2.1.1
    omega
  · have h := vT_cmp hO hE (hT key hk)
    omega
theorem vT_all_eq {S : zS} (hO : zOK S) (I : vI S) (hz0 : ∀ key, key < 32 → S 21 (zown (zn S 22 0) key) = (-1) → S 13 key = nI 0 ∧ S 14 key = nI 0) (h : ∀ w, w < zn S 22 0 → S 21 w = (-1)) : q_m (zn S 19) 32 + s_o S (zn S 22 0) = q_m (zn S 9) 32 := by
  rw [s_o_all hO, ← q_m_add]
  refine q_m_congr (fun key hk => ?_)
  have h1 := (I.2.2.1 key hk).2.1.1
  have h2 := (z_zero (hz0 key hk (h _ (hO.own key).1)).1).2
  have h3 : zn S 13 key = 0 := h2
  show zn S 19 key + zn S 11 key = zn S 9 key
  omega
/-- a number of a checkpoint is not below 0, or it is none -/
theorem vD_neg {k : Nat} {S : zS} (D : zDeep k S) (hk : k ≤ 2000) {w : Nat} (hw : w < 4) (h : S 21 w < 0) : S 21 w = (-1) := by
  obtain ⟨d1, d2, d3, d4, d5, -⟩ := D
  rcases d5 w hw with z | ⟨-, z1, z2⟩
  · exact z
  · by_cases u : S 22 2 = (-1)
    · have e := z2 u
      rcases d3 with y | ⟨c, y1, y2, y3⟩
      · rw [e, y]
      · rw [e, y3] at h
        exact absurd h (nI_pos (by omega))
    · have e := z1 u
      rcases d2 with y | ⟨y1, y2⟩
      · exact absurd y u
      · rw [e, y1, d1.1] at h
        exact absurd h (nI_pos (by omega))
theorem vD_neg2 {k : Nat} {S : zS} (D : zDeep k S) (hk : k ≤ 2000) (h : S 22 2 < 0) : S 22 2 = (-1) := Decidable.byContradiction (fun u => by
  have q := q_under D hk u
  rw [q.1] at h
  exact nI_pos (by omega) h)
section ZGT
variable {p : Program} {l : Launch} {e : Env} {R : Room} {s : State} {m : MethodId} {args : Array Value} {below : List Frame} {meth : Method} {c : Code} {H : Heap} {locs : List Loc} {cells slots : Nat} {Q : State → Prop}
variable {cc : ByteArray} {pc : Nat} {ls : Array Slot} {rest : List Value}
theorem z_if_gt_n {x : Nat} {off : Int} {tgt : Nat} (hx : p.tables.exec = Jvm.exec) (hb : c.code = cc) (hdg : decode cc pc = .ok (.ifCond .gt off, 3)) (ht : (pc : Int) + off = (tgt : Int)) (h1 : x < 2 ^ 31) (kt : 0 < x → W p l e R s m args below meth c H locs cells slots Q (F0 m tgt ls rest)) (kf : x = 0 → W p l e R s m args below meth c H locs cells slots Q (F0 m (pc + 3) ls rest)) : W p l e R s m args below meth c H locs cells slots Q (F0 m pc ls (.int (nI x) :: rest)) :=
  lv_if_gt hx hb hdg ht (fun h => kt (Nat.pos_of_ne_zero (fun q => by rw [q] at h; exact absurd h (by decide)))) (fun h => kf (Decidable.byContradiction (fun q => h (by rw [← nI_0]; exact nI_lt (Nat.pos_of_ne_zero q) h1))))
end ZGT
