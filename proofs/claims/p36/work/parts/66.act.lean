/-! act: it throws and leaves all as it is, or answers and keeps the invariant -/
theorem z_ge_nm {n : Nat} (h : n < 2 ^ 31) : ¬ nI n = (-99999) := fun z => by
  have h1 := congrArg Int32.toInt z
  rw [nI_toInt h] at h1
  have h2 : (-99999 : Int32).toInt = -99999 := by decide
  omega
theorem zn_lt (S : zS) (j i : Nat) : zn S j i < 2 ^ 31 := by
  unfold zn Int32.toNatClampNeg
  have := (S j i).toInt_lt
  omega
theorem zbad_n {m n : Nat} (h : n ≤ m) (hm : m < 2 ^ 31) : zbad (nI m) n := Or.inr ((nI_leI (by omega) hm).mpr h)
theorem zbadv_n {m lo hi : Nat} (h : m < lo ∨ hi < m) (hm : m < 2 ^ 31) (hlo : lo < 2 ^ 31) : zbadv (nI m) lo hi := by
  unfold zbadv
  rcases h with h | h
  · exact Or.inl (Int32.not_le.mp (fun z => by have := (nI_leI hlo hm).mp z; omega))
  · exact Or.inr (Int32.not_le.mp (fun z => by have := (nI_leI hm (by omega)).mp z; omega))
theorem mc_q {S : zS} {w : Nat} (h : ∀ key, key < 32 → S 13 key = nI (zn S 13 key) ∧ zn S 13 key ≤ 24000) : ∀ t, t ≤ 32 → ∃ m, m ≤ 24000 * t ∧ sp_mc (sp_un S w) 13 19 w t = nI m
  | 0, _ => ⟨0, by omega, rfl⟩
  | t + 1, ht => by
    obtain ⟨m, h1, h2⟩ := mc_q h t (by omega)
    have h3 : sp_mv (sp_un S w) 13 19 w t 13 t = S 13 t := by
      rw [mv_at _ _ _ _ (by omega) (by omega) (by omega)]
      simp only [un_at]
      grind
    obtain ⟨h4, h5⟩ := h t (by omega)
    unfold sp_mc
    rw [h3, h2]
    split
    · exact ⟨m + zn S 13 t, by omega, by rw [h4, nI_add]⟩
    · exact ⟨m, by omega, rfl⟩
theorem pmc_le {S : zS} (hO : zOK S) : ∀ t, sp_pmc S t ≤ 20 * t
  | 0 => Nat.le_refl 0
  | t + 1 => by
    have h1 := pmc_le hO t
    have h2 := sp_rrc_le (sp_pm S t) 4
    have h3 := sp_ttc_le (sp_rr (sp_pm S t) 4) (zn (sp_rr (sp_pm S t) 4) 22 0)
    have h4 := (zOK.w (zOK_rr (zOK_pm hO t) 4)).2.2
    show sp_pmc S t + (sp_rrc (sp_pm S t) 4 + sp_ttc (sp_rr (sp_pm S t) 4) (zn (sp_rr (sp_pm S t) 4) 22 0)) ≤ 20 * (t + 1)
    omega
theorem mg_le (V W : Nat) : ∀ g, sp_mg V W g ≤ g
  | 0 => Nat.le_refl 0
  | g + 1 => by
    have := mg_le V W g
    unfold sp_mg
    split <;> omega
def aT (S : zS) (v : Int32) : Prop := ∀ (l : Launch) (D : va_G) (cI cZ : ClassId) (ad : Nat → Nat) (B : Nat → Prop), (∀ S : zS, va_D B (wX cI cZ ad S)) → l.stackTraces = false → zMC 1 6 l yL_act wsL_act ({ frames := 9, cells := 1, slots := 6, locals := 204 } : Room) [.ref (ad 0), .int v] D (zT cI cZ) B (wX cI cZ ad) S (fun (r : Int32) (S1 : zS) => r = (-99999) ∧ S1 = S)
def aO (S : zS) (v r0 : Int32) (S0 : zS) : Prop := ∀ (l : Launch) (D : va_G) (cI cZ : ClassId) (ad : Nat → Nat) (B : Nat → Prop), (∀ S : zS, va_D B (wX cI cZ ad S)) → l.stackTraces = false → zMC 0 0 l yL_act wsL_act ({ frames := 9, cells := 0, slots := 0, locals := 204 } : Room) [.ref (ad 0), .int v] D (zT cI cZ) B (wX cI cZ ad) S (fun (r : Int32) (S1 : zS) => r = r0 ∧ S1 = S0)
theorem vJ_ok {k : Nat} {S : zS} (J : vJ k S) : zOK S := by
  obtain ⟨⟨M, I⟩, -⟩ := J
  exact I.1
/-- what a taken event answers -/
theorem tfr_q {k : Nat} {S : zS} (hk : k ≤ 2000) (J : vJ k S) {p w : Nat} (hp : p < 4) (hw : w < zn S 22 0) (hc : zcanT S p w) : ∃ n, n < 2 ^ 31 ∧ sp_tfr S p w = nI n := by
  have hO := vJ_ok J
  have hw4 : w < 4 := by have := (zOK.w hO).2.2; omega
  have J2 := vJ_take hk J hp hw hc
  obtain ⟨-, ⟨hE, hC, -, -⟩, -⟩ := J
  unfold sp_tfr
  split
  · rename_i h0
    have hev : vEv (zn S 6 (8 * (4 * p + w))) := by
      obtain ⟨-, f, a2⟩ := hC (4 * p + w) (by omega)
      obtain ⟨b1, b2, -⟩ := a2 0 hc.1 h0
      rw [Nat.add_zero] at b2
      rw [← b2]
      have hE2 := hE ((4 * p + w) / 4) (by omega)
      exact hE2.2.2.2 _ (Nat.lt_of_lt_of_le b1 hE2.1)
    exact ⟨_, zn_lt _ _ _, (J2.2.1.2.2.1 _ hev.2.2).1 9 (by decide) (by decide)⟩
  · exact ⟨0, by decide, rfl⟩
theorem act_begin {k : Nat} {S : zS} (hk : k ≤ 1900) (J : vJ k S) (v : Int32) (hT : ¬ S 22 2 = (-1) ∨ ¬ (∀ w, w < zn S 22 0 → S 21 w = (-1)) → aT S v) (hO1 : S 22 2 = (-1) → (∀ w, w < zn S 22 0 → S 21 w = (-1)) → aO S v (S 22 1 + nI 1) (sp_beg S)) : aT S v ∨ ∃ r S0, aO S v r S0 ∧ ¬ r = (-99999) ∧ vJ (k + 1) S0 := by
  by_cases h1 : S 22 2 = (-1)
  · by_cases h2 : ∀ w, w < zn S 22 0 → S 21 w = (-1)
    · refine Or.inr ⟨_, _, hO1 h1 h2, ?_, vJ_beg (by omega) J h1 h2⟩
      obtain ⟨⟨M, I⟩, -⟩ := J
      obtain ⟨⟨d1, d2⟩, -⟩ := I.2.2.2
      have e : S 22 1 + nI 1 = nI (zn S 22 1 + 1) := (congrArg (· + nI 1) d1).trans (nI_add _ 1)
      rw [e]
      exact z_ge_nm (by omega)
    · exact Or.inl (hT (Or.inr h2))
  · exact Or.inl (hT (Or.inl h1))
set_option maxHeartbeats 2000000 in
theorem act_all {k : Nat} {S : zS} (hk : k ≤ 1900) (J : vJ k S) (v : Int32) : aT S v ∨ ∃ r S0, aO S v r S0 ∧ ¬ r = (-99999) ∧ vJ (k + 1) S0 := by
  have hO := vJ_ok J
  have hW := (zOK.w hO).2
  have h30 := zlow_lt v (n := 30) (by decide)
  have hd := a_d_le v
  have hp6 := a_p_lt v
  have hw6 := a_w_lt v hW.1 hW.2
  have hp0 : a_d v = 0 → a_p v < 4 := fun h => by
    unfold a_p
    rw [h]
    exact zlow_lt _ (by decide)
  by_cases c1 : zlow v 30 < 8
  · have c0 := Nat.zero_le (zlow v 30)
    rcases (show a_d v = 0 ∨ a_d v = 1 by omega) with d | d
    · have k1 : zlow (zsh v 7) 32 < 32 := zlow_lt _ (by decide)
      have k2 : zlow (zsh v 12) 100 < 100 := zlow_lt _ (by decide)
      by_cases n : zn S 0 (a_p v) < 60
      · exact Or.inr ⟨_, _, fun _ _ _ _ _ _ hG hfl => a_append_ok_0 hG hfl S v hO c0 c1 d (hp0 d) k1 (by omega) (by omega) n, z_ge_nm (zn_lt _ _ _), vJ_app J (hp0 d) k1 (by omega) (by omega) n⟩
      · exact Or.inl (fun _ _ _ _ _ _ hG hfl => a_append_e4_0 hG hfl S v hO c0 c1 d (hp0 d) k1 (by omega) (by omega) n)
    · by_cases p : a_p v < 4
      · by_cases k1 : zlow (zsh v 7) 40 < 32
        · by_cases k2 : 1 ≤ zlow (zsh v 12) 120 ∧ zlow (zsh v 12) 120 ≤ 100
          · by_cases n : zn S 0 (a_p v) < 60
            · exact Or.inr ⟨_, _, fun _ _ _ _ _ _ hG hfl => a_append_ok_1 hG hfl S v hO c0 c1 d p k1 k2.1 k2.2 n, z_ge_nm (zn_lt _ _ _), vJ_app J p k1 k2.1 k2.2 n⟩
            · exact Or.inl (fun _ _ _ _ _ _ hG hfl => a_append_e4_1 hG hfl S v hO c0 c1 d p k1 k2.1 k2.2 n)
          · exact Or.inl (fun _ _ _ _ _ _ hG hfl => a_append_e3_1 hG hfl S v hO c0 c1 d p k1 (zbadv_n (by omega) (zlow_lt2 _ _) (by decide)))
        · exact Or.inl (fun _ _ _ _ _ _ hG hfl => a_append_e2_1 hG hfl S v hO c0 c1 d p (zbad_n (by omega) (zlow_lt2 _ _)))
      · exact Or.inl (fun _ _ _ _ _ _ hG hfl => a_append_e1_1 hG hfl S v hO c0 c1 d (zbad_n (by omega) (by omega)))
  by_cases c2 : zlow v 30 < 13
  · by_cases p : a_p v < 4
    · by_cases c : zcanR S (a_p v)
      · have h4 := (hO.own (zev S (a_p v) / 1000)).2
        exact Or.inr ⟨_, _, fun _ _ _ _ _ _ hG hfl => a_read_ok hG hfl S v hO (by omega) c2 p c, z_ge_nm (Nat.lt_trans (show zrw S (a_p v) < 4 from h4) (by decide)), vJ_mono (Nat.le_succ k) (vJ_read J p c)⟩
      · exact Or.inl (fun _ _ _ _ _ _ hG hfl => a_read_e2 hG hfl S v hO (by omega) c2 p c)
    · exact Or.inl (fun _ _ _ _ _ _ hG hfl => a_read_e1 hG hfl S v hO (by omega) c2 (zbad_n (by omega) (by omega)))
  by_cases c3 : zlow v 30 < 17
  · by_cases p : a_p v < 4
    · by_cases u : S 22 2 = (-1)
      · exact Or.inl (fun _ _ _ _ _ _ hG hfl => a_sendBarrier_e2 hG hfl S v hO (by omega) c3 p (Or.inl u))
      · rcases hO.b4 (a_p v) with s | s
        · by_cases r : ∀ w, w < zn S 22 0 → zn S 7 (4 * a_p v + w) < 8
          · have hx : (-(S 22 2)).toInt ≤ 31100 := by
              obtain ⟨⟨M, I⟩, -⟩ := J
              exact iv_neg I u
            exact Or.inr ⟨_, _, fun _ _ _ _ _ _ hG hfl => a_sendBarrier_ok hG hfl S v hO (by omega) c3 p u s r hx, z_ge_nm (zn_lt _ _ _), vJ_mono (Nat.le_succ k) (vJ_send (by omega) J p u s r)⟩
          · exact Or.inl (fun _ _ _ _ _ _ hG hfl => a_sendBarrier_e3 hG hfl S v hO (by omega) c3 p u s r)
        · exact Or.inl (fun _ _ _ _ _ _ hG hfl => a_sendBarrier_e2 hG hfl S v hO (by omega) c3 p (Or.inr s))
    · exact Or.inl (fun _ _ _ _ _ _ hG hfl => a_sendBarrier_e1 hG hfl S v hO (by omega) c3 (zbad_n (by omega) (by omega)))
  by_cases c4 : zlow v 30 < 22
  · by_cases w : a_w v (zn S 22 0) < zn S 22 0
    · by_cases p : a_p v < 4
      · by_cases c : zcanT S (a_p v) (a_w v (zn S 22 0))
        · obtain ⟨n, n1, n2⟩ := tfr_q (by omega) J p w c
          exact Or.inr ⟨_, _, fun _ _ _ _ _ _ hG hfl => a_take_ok hG hfl S v hO (by omega) c4 w p c, by rw [n2]; exact z_ge_nm n1, vJ_mono (Nat.le_succ k) (vJ_take (by omega) J p w c)⟩
        · exact Or.inl (fun _ _ _ _ _ _ hG hfl => a_take_e3 hG hfl S v hO (by omega) c4 w p c)
      · exact Or.inl (fun _ _ _ _ _ _ hG hfl => a_take_e2 hG hfl S v hO (by omega) c4 w (zbad_n (by omega) (by omega)))
    · exact Or.inl (fun _ _ _ _ _ _ hG hfl => a_take_e1 hG hfl S v hO (by omega) c4 (zbad_n (by omega) (by omega)))
  by_cases c5 : zlow v 30 < 24
  · by_cases w : a_w v (zn S 22 0) < zn S 22 0
    · by_cases c : zrdy S (a_w v (zn S 22 0))
      · have hm : ∃ m, m ≤ 24000 * 32 ∧ sp_comr S (a_w v (zn S 22 0)) = nI m := by
          obtain ⟨-, ⟨hE, -, hT, -⟩, -⟩ := J
          exact mc_q (fun key hk => ⟨(hT key hk).1 13 (by decide) (by decide), vT_z hO hE (hT key hk) 13 (by decide) (by decide) (by decide) (by decide)⟩) 32 (Nat.le_refl _)
        obtain ⟨m, m1, m2⟩ := hm
        exact Or.inr ⟨_, _, fun _ _ _ _ _ _ hG hfl => a_commit_ok hG hfl S v hO (by omega) c5 w c, by rw [m2]; exact z_ge_nm (by omega), vJ_mono (Nat.le_succ k) (vJ_com J w c)⟩
      · exact Or.inl (fun _ _ _ _ _ _ hG hfl => a_commit_e2 hG hfl S v hO (by omega) c5 w c)
    · exact Or.inl (fun _ _ _ _ _ _ hG hfl => a_commit_e1 hG hfl S v hO (by omega) c5 (zbad_n (by omega) (by omega)))
  by_cases c6 : zlow v 30 < 26
  · exact act_begin hk J v (fun h _ _ _ _ _ _ hG hfl => a_begin_e1 hG hfl S v hO (by omega) c6 h) (fun h1 h2 _ _ _ _ _ _ hG hfl => a_begin_ok hG hfl S v hO (by omega) c6 h1 h2)
  by_cases c7 : zlow v 30 < 28
  · rcases (show a_d v = 0 ∨ a_d v = 1 by omega) with d | d
    · have k1 : zlow (zsh v 6) 4 < 4 := zlow_lt _ (by decide)
      have b := pmc_le hO (1 + zlow (zsh v 6) 4)
      exact Or.inr ⟨_, _, fun _ _ _ _ _ _ hG hfl => a_pump_ok_0 hG hfl S v hO (by omega) c7 d (by omega) (by omega), z_ge_nm (by omega), vJ_mono (Nat.le_succ k) (vJ_pm (by omega) J _)⟩
    · by_cases n : 1 ≤ zlow (zsh v 6) 30 ∧ zlow (zsh v 6) 30 ≤ 20
      · have b := pmc_le hO (zlow (zsh v 6) 30)
        exact Or.inr ⟨_, _, fun _ _ _ _ _ _ hG hfl => a_pump_ok_1 hG hfl S v hO (by omega) c7 d n.1 n.2, z_ge_nm (by omega), vJ_mono (Nat.le_succ k) (vJ_pm (by omega) J _)⟩
      · exact Or.inl (fun _ _ _ _ _ _ hG hfl => a_pump_e1_1 hG hfl S v hO (by omega) c7 d (zbadv_n (by omega) (zlow_lt2 _ _) (by decide)))
  by_cases c8 : zlow v 30 = 28
  · by_cases b : zlow (zsh v 9) 2 = 0
    · by_cases u : S 22 2 = (-1)
      · exact Or.inl (fun _ _ _ _ _ _ hG hfl => a_abandon_e1 hG hfl S v hO c8 b u)
      · have hn : ∃ n, n < 2 ^ 31 ∧ S 22 2 = nI n := by
          obtain ⟨⟨M, I⟩, -⟩ := J
          have q := q_under I.2.2.2 (by omega) u
          exact ⟨_, by omega, q.1⟩
        obtain ⟨n, n1, n2⟩ := hn
        exact Or.inr ⟨_, _, fun _ _ _ _ _ _ hG hfl => a_abandon_ok hG hfl S v hO c8 b u, by rw [n2]; exact z_ge_nm n1, vJ_mono (Nat.le_succ k) (vJ_ab J u)⟩
    · have J2 := vJ_sa J hW.1 hW.2
      have hn : ∃ n, n < 2 ^ 31 ∧ sp_cr S = nI n := by
        obtain ⟨⟨M, I⟩, -⟩ := J2
        have d3 := I.2.2.2.2.2.1
        have d1 := I.2.2.2.1
        unfold sp_cr
        split
        · exact ⟨0, by decide, rfl⟩
        · rename_i h
          rcases d3 with z | ⟨c, z1, z2, z3⟩
          · exact absurd z h
          · exact ⟨c, by omega, z3⟩
      obtain ⟨n, n1, n2⟩ := hn
      exact Or.inr ⟨_, _, fun _ _ _ _ _ _ hG hfl => a_crash_ hG hfl S v hO c8 b, by rw [n2]; exact z_ge_nm n1, vJ_mono (Nat.le_succ k) J2⟩
  · have c9 : zlow v 30 = 29 := by omega
    by_cases b : zlow (zsh v 10) 3 = 0
    · have e : ∀ n, sp_mg n (zn S 22 0) 8 < 2 ^ 31 := fun n => Nat.lt_of_le_of_lt (mg_le n _ 8) (by decide)
      rcases (show a_d v = 0 ∨ a_d v = 1 by omega) with d | d
      · have k1 : zlow (zsh v 6) 4 < 4 := zlow_lt _ (by decide)
        exact Or.inr ⟨_, _, fun _ _ _ _ _ _ hG hfl => a_rescale_ok_0 hG hfl S v hO c9 b d (by omega) (by omega), z_ge_nm (e _), vJ_mono (Nat.le_succ k) (vJ_sa J (by omega) (by omega))⟩
      · by_cases n : 1 ≤ zlow (zsh v 6) 8 ∧ zlow (zsh v 6) 8 ≤ 4
        · exact Or.inr ⟨_, _, fun _ _ _ _ _ _ hG hfl => a_rescale_ok_1 hG hfl S v hO c9 b d n.1 n.2, z_ge_nm (e _), vJ_mono (Nat.le_succ k) (vJ_sa J n.1 n.2)⟩
        · exact Or.inl (fun _ _ _ _ _ _ hG hfl => a_rescale_e1_1 hG hfl S v hO c9 b d (zbadv_n (by omega) (zlow_lt2 _ _) (by decide)))
    · exact act_begin hk J v (fun h _ _ _ _ _ _ hG hfl => a_begin2_e1 hG hfl S v hO c9 b h) (fun h1 h2 _ _ _ _ _ _ hG hfl => a_begin2_ok hG hfl S v hO c9 b h1 h2)
