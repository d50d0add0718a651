/-! the model's words -/
def zth (S : zS) (i : Nat) : zS := zU S 22 (upd (S 22) 4 (nI i))
theorem zOK_th {S : zS} {i : Nat} (h : zOK S) : zOK (zth S i) := zOK_22 h (by omega)
theorem zbad_in {x : Int32} {n m : Nat} (h : zbad x n) (hm : m + 1 = n) (hn : n < 2 ^ 31) : ¬ (nI 0 ≤ x ∧ x ≤ nI m) := by
  intro q
  rcases h with h | h
  · exact absurd (show nI 0 ≤ x from q.1) (Int32.not_le.mpr (by rw [nI_0]; exact h))
  · have h2 := Int32.le_trans h q.2
    rw [nI_leI hn (by omega)] at h2
    omega
theorem zbadv_in {x : Int32} {lo hi : Nat} (h : zbadv x lo hi) : ¬ (nI lo ≤ x ∧ x ≤ nI hi) := fun q => h.elim (fun z => absurd q.1 (Int32.not_le.mpr z)) (fun z => absurd q.2 (Int32.not_le.mpr z))
def sp_m1 (f : Nat → Int32) : Nat → (Nat → Int32)
  | 0 => f
  | k + 1 => upd (sp_m1 f k) k (-1)
theorem zU_comm (S : zS) {a b : Nat} (h : a ≠ b) (f g : Nat → Int32) : zU (zU S a f) b g = zU (zU S b g) a f := by
  funext j
  simp only [zU]
  by_cases h1 : j = b
  · by_cases h2 : j = a
    · exact absurd (h2.symm.trans h1) h
    · rw [if_pos h1, if_neg h2, if_pos h1]
  · by_cases h2 : j = a
    · rw [if_neg h1, if_pos h2, if_pos h2]
    · rw [if_neg h1, if_neg h2, if_neg h2, if_neg h1]
def mo_send (S : zS) (p : Nat) : zS := sp_sb (sp_keep S p) p (zn S 22 0)
def mo_ak (S : zS) (w : Nat) : Nat → zS
  | 0 => S
  | k + 1 => if zown (zn (mo_ak S w k) 22 0) k = w then zU (zU (zU (zU (zU (zU (mo_ak S w k) 15 (upd (mo_ak S w k 15) k (mo_ak S w k 9 k))) 16 (upd (mo_ak S w k 16) k (mo_ak S w k 10 k))) 13 (upd (mo_ak S w k 13) k (mo_ak S w k 11 k))) 14 (upd (mo_ak S w k 14) k (mo_ak S w k 12 k))) 11 (upd (mo_ak S w k 11) k (nI 0))) 12 (upd (mo_ak S w k 12) k (nI 0)) else mo_ak S w k
theorem zOK_ak {S : zS} {w : Nat} (h : zOK S) : ∀ k, zOK (mo_ak S w k)
  | 0 => h
  | k + 1 => zOK_if (fun _ => zOK_o (zOK_o (zOK_o (zOK_o (zOK_o (zOK_o (zOK_ak h k) (by omega) (by omega)) (by omega) (by omega)) (by omega) (by omega)) (by omega) (by omega)) (by omega) (by omega)) (by omega) (by omega)) (fun _ => zOK_ak h k)
def mo_al1 (S : zS) (w : Nat) : zS := zU (mo_ak (zU S 8 (sp_unb (S 8) w 4)) w 32) 21 (upd (mo_ak (zU S 8 (sp_unb (S 8) w 4)) w 32 21) w (mo_ak (zU S 8 (sp_unb (S 8) w 4)) w 32 22 2))
theorem zOK_al1 {S : zS} {w : Nat} (h : zOK S) : zOK (mo_al1 S w) := zOK_o (zOK_ak (zOK_u8 h) 32) (by omega) (by omega)
def mo_cc (S : zS) : zS := zU (zU (zU (zU S 22 (upd (upd (S 22) 3 (S 22 2)) 2 (-1))) 3 (sp_cp (S 3) (S 5) 4)) 17 (sp_cp (S 17) (S 15) 32)) 18 (sp_cp (S 18) (S 16) 32)
theorem zOK_mcc {S : zS} (h : zOK S) : zOK (mo_cc S) := by
  have h3 := zOK_22 (i := 2) (x := -1) (zOK_22 (i := 3) (x := S 22 2) h (by omega)) (by omega)
  rw [zU_U] at h3
  exact zOK_o (zOK_o (zOK_3 h3 (zNb_cp (by omega) h.2.2.2.1 h.2.2.2.2.2.1 4)) (by omega) (by omega)) (by omega) (by omega)
abbrev zallU (S : zS) : Prop := ∀ w, w < zn S 22 0 → S 21 w = S 22 2
def mo_cp (S : zS) : zS := if zallU S then mo_cc S else S
theorem zOK_cp {S : zS} (h : zOK S) : zOK (mo_cp S) := zOK_if (fun _ => zOK_mcc h) (fun _ => h)
def mo_al (S : zS) (w : Nat) : zS := if zallB S w then mo_cp (mo_al1 S w) else S
theorem zOK_al {S : zS} {w : Nat} (h : zOK S) : zOK (mo_al S w) := zOK_if (fun _ => zOK_cp (zOK_al1 h)) (fun _ => h)
def mo_tf (S : zS) (p w : Nat) : zS := if 0 < S 6 (8 * (4 * p + w)) then sp_te (sp_rem S (4 * p + w)) (zn S 6 (8 * (4 * p + w)) / 1000) (zn S 6 (8 * (4 * p + w)) % 1000) else if -(S 6 (8 * (4 * p + w))) = S 22 2 then mo_al (sp_blk (sp_rem S (4 * p + w)) p w) w else sp_rem S (4 * p + w)
def mo_tfr (S : zS) (p w : Nat) : Int32 := if 0 < S 6 (8 * (4 * p + w)) then mo_tf S p w 9 (zn S 6 (8 * (4 * p + w)) / 1000) else nI 0
theorem zOK_mtf {S : zS} {p w : Nat} (h : zOK S) : zOK (mo_tf S p w) := zOK_if (fun _ => zOK_te (zOK_rem h)) (fun _ => zOK_if (fun _ => zOK_al (zOK_blk (zOK_rem h))) (fun _ => zOK_rem h))
abbrev zmay (S : zS) (w : Nat) : Prop := ¬ S 21 w = (-1) ∧ ¬ S 21 w = S 22 2
def mo_com1 (S : zS) (w : Nat) : Nat → zS
  | 0 => S
  | k + 1 => if zown (zn (mo_com1 S w k) 22 0) k = w then zU (zU (mo_com1 S w k) 19 (upd (mo_com1 S w k 19) k (mo_com1 S w k 19 k + mo_com1 S w k 13 k))) 20 (upd (mo_com1 S w k 20) k (mo_com1 S w k 20 k + mo_com1 S w k 14 k)) else mo_com1 S w k
def mo_comc (S : zS) (w : Nat) : Nat → Int32
  | 0 => nI 0
  | k + 1 => if zown (zn (mo_com1 S w k) 22 0) k = w then mo_comc S w k + mo_com1 S w k 13 k else mo_comc S w k
theorem zOK_com1 {S : zS} {w : Nat} (h : zOK S) : ∀ k, zOK (mo_com1 S w k)
  | 0 => h
  | k + 1 => zOK_if (fun _ => zOK_o (zOK_o (zOK_com1 h k) (by omega) (by omega)) (by omega) (by omega)) (fun _ => zOK_com1 h k)
def mo_com (S : zS) (w : Nat) : zS := sp_un (mo_com1 S w 32) w
theorem zOK_mcom {S : zS} {w : Nat} (h : zOK S) : zOK (mo_com S w) := zOK_un (zOK_com1 h 32)
theorem w0_com1 (S : zS) (w : Nat) : ∀ k, mo_com1 S w k 22 0 = S 22 0
  | 0 => rfl
  | k + 1 => w0_if ((w0_U (by omega)).trans ((w0_U (by omega)).trans (w0_com1 S w k))) (w0_com1 S w k)
theorem w0_mcom (S : zS) (w : Nat) : mo_com S w 22 0 = S 22 0 := (w0_un _ w).trans (w0_com1 S w 32)
def mo_lift (S : zS) : zS := zU (zU S 8 (sp_z (S 8) 16)) 4 (sp_z (S 4) 4)
theorem zOK_lift {S : zS} (h : zOK S) : zOK (mo_lift S) := zOK_4 (zOK_8 h (zBb_z h.2.2.2.2.2.2.2.2.1 16)) (zBb_z h.2.2.2.2.1 4)
def mo_beg (S : zS) : zS := mo_lift (zU S 22 (upd (upd (S 22) 1 (S 22 1 + nI 1)) 2 (S 22 1 + nI 1)))
def mo_ab1 (S : zS) : Nat → zS
  | 0 => S
  | k + 1 => if mo_ab1 S k 21 (zown (zn (mo_ab1 S k) 22 0) k) = mo_ab1 S k 22 2 then zU (zU (mo_ab1 S k) 11 (upd (mo_ab1 S k 11) k (mo_ab1 S k 11 k + mo_ab1 S k 13 k))) 12 (upd (mo_ab1 S k 12) k (mo_ab1 S k 12 k + mo_ab1 S k 14 k)) else mo_ab1 S k
theorem zOK_mab1 {S : zS} (h : zOK S) : ∀ k, zOK (mo_ab1 S k)
  | 0 => h
  | k + 1 => zOK_if (fun _ => zOK_o (zOK_o (zOK_mab1 h k) (by omega) (by omega)) (by omega) (by omega)) (fun _ => zOK_mab1 h k)
def mo_uns (S : zS) : zS := zU S 21 (sp_m1 (S 21) 4)
theorem zOK_uns {S : zS} (h : zOK S) : zOK (mo_uns S) := zOK_o h (by omega) (by omega)
def mo_ab (S : zS) : zS := sp_sa2 (mo_lift (mo_uns (mo_ab1 S 32)))
def mo_sa1 (S : zS) : Nat → zS
  | 0 => S
  | w + 1 => if zmay (mo_sa1 S w) w then mo_com (mo_sa1 S w) w else mo_sa1 S w
theorem zOK_msa1 {S : zS} (h : zOK S) : ∀ w, zOK (mo_sa1 S w)
  | 0 => h
  | w + 1 => zOK_if (fun _ => zOK_mcom (zOK_msa1 h w)) (fun _ => zOK_msa1 h w)
theorem w0_msa1 (S : zS) : ∀ w, mo_sa1 S w 22 0 = S 22 0
  | 0 => rfl
  | w + 1 => w0_if ((w0_mcom _ w).trans (w0_msa1 S w)) (w0_msa1 S w)
theorem zn_msa1 (S : zS) (w : Nat) : zn (mo_sa1 S w) 22 0 = zn S 22 0 := congrArg Int32.toNatClampNeg (w0_msa1 S w)
def mo_sa2 (T : zS) (n : Nat) : zS := zU T 22 (upd (upd (T 22) 2 (-1)) 0 (nI n))
def mo_clr (T : zS) (c N : Nat) : zS := zU T c (sp_z (T c) N)
def mo_cpy (T : zS) (c d N : Nat) : zS := zU T c (sp_cp (T c) (T d) N)
def mo_sa (S : zS) (n : Nat) : zS := mo_cpy (mo_cpy (mo_cpy (mo_clr (mo_clr (mo_clr (mo_sa2 (mo_lift (mo_uns (mo_sa1 S (zn S 22 0)))) n) 7 16) 11 32) 12 32) 2 3 4) 9 17 32) 10 18 32
theorem zOK_msa2 {T : zS} {n : Nat} (h : zOK T) (h1 : 1 ≤ n) (h4 : n ≤ 4) : zOK (mo_sa2 T n) := by
  have h3 := zOK_220 (zOK_22 (i := 2) (x := -1) h (by omega)) h1 h4
  rw [zU_U] at h3
  exact h3
theorem zOK_msa {S : zS} {n : Nat} (h : zOK S) (h1 : 1 ≤ n) (h4 : n ≤ 4) : zOK (mo_sa S n) := by
  have a := zOK_msa2 (zOK_lift (zOK_uns (zOK_msa1 h (zn S 22 0)))) h1 h4
  have b : zOK (mo_clr _ 7 16) := zOK_7 a (zNb_z (by omega) a.2.2.2.2.2.2.2.1 16)
  have c : zOK (mo_clr (mo_clr (mo_clr _ 7 16) 11 32) 12 32) := zOK_o (zOK_o b (by omega) (by omega)) (by omega) (by omega)
  exact zOK_o (zOK_o (zOK_2 c (zNb_cp (by omega) c.2.2.1 c.2.2.2.1 4)) (by omega) (by omega)) (by omega) (by omega)
def mo_cr (S : zS) : Int32 := if mo_sa S (zn S 22 0) 22 3 = (-1) then nI 0 else mo_sa S (zn S 22 0) 22 3
/-- pump, step by step -/
abbrev mo_L (S : zS) : Nat := 4 * (zn S 22 0 + 1)
def mo_p1 (T : zS) (i : Nat) : zS := if i / 4 = 0 ∧ zcanR T i then sp_read T i else T
def mo_p2 (T : zS) (i : Nat) : zS := if 1 ≤ i / 4 ∧ zcanT T (i % 4) (i / 4 - 1) then mo_tf T (i % 4) (i / 4 - 1) else T
def mo_ps (S : zS) : Nat → zS
  | 0 => S
  | k + 1 => mo_p2 (mo_p1 (mo_ps S k) (k % mo_L S)) (k % mo_L S)
def mo_c1 (T : zS) (i : Nat) : Nat := if i / 4 = 0 ∧ zcanR T i then 1 else 0
def mo_c2 (T : zS) (i : Nat) : Nat := if 1 ≤ i / 4 ∧ zcanT T (i % 4) (i / 4 - 1) then 1 else 0
def mo_psc (S : zS) : Nat → Nat
  | 0 => 0
  | k + 1 => mo_psc S k + mo_c1 (mo_ps S k) (k % mo_L S) + mo_c2 (mo_p1 (mo_ps S k) (k % mo_L S)) (k % mo_L S)
theorem zOK_p1 {T : zS} {i : Nat} (h : zOK T) : zOK (mo_p1 T i) := zOK_if (fun q => zOK_read h q.2) (fun _ => h)
theorem zOK_p2 {T : zS} {i : Nat} (h : zOK T) : zOK (mo_p2 T i) := zOK_if (fun _ => zOK_mtf h) (fun _ => h)
theorem zOK_ps {S : zS} (h : zOK S) : ∀ k, zOK (mo_ps S k)
  | 0 => h
  | k + 1 => zOK_p2 (zOK_p1 (zOK_ps h k))
theorem w0_ak (S : zS) (w : Nat) : ∀ k, mo_ak S w k 22 0 = S 22 0
  | 0 => rfl
  | k + 1 => w0_if ((w0_U (by omega)).trans ((w0_U (by omega)).trans ((w0_U (by omega)).trans ((w0_U (by omega)).trans ((w0_U (by omega)).trans ((w0_U (by omega)).trans (w0_ak S w k))))))) (w0_ak S w k)
theorem w0_mcc (S : zS) : mo_cc S 22 0 = S 22 0 := by
  unfold mo_cc
  rw [zU_n (by omega), zU_n (by omega), zU_n (by omega), zU_s, pk_un (by omega), pk_un (by omega)]
theorem w0_al1 (S : zS) (w : Nat) : mo_al1 S w 22 0 = S 22 0 := (w0_U (by omega)).trans ((w0_ak _ w 32).trans (w0_U (by omega)))
theorem w0_al (S : zS) (w : Nat) : mo_al S w 22 0 = S 22 0 := w0_if (w0_if ((w0_mcc _).trans (w0_al1 S w)) (w0_al1 S w)) rfl
theorem w0_mtf (S : zS) (p w : Nat) : mo_tf S p w 22 0 = S 22 0 := w0_if ((w0_tadd (by omega)).trans ((w0_tadd (by omega)).trans (w0_rem S _))) (w0_if ((w0_al _ w).trans ((w0_U (by omega)).trans (w0_rem S _))) (w0_rem S _))
theorem w0_p1 (T : zS) (i : Nat) : mo_p1 T i 22 0 = T 22 0 := w0_if (w0_read T i) rfl
theorem w0_p2 (T : zS) (i : Nat) : mo_p2 T i 22 0 = T 22 0 := w0_if (w0_mtf T _ _) rfl
theorem w0_ps (S : zS) : ∀ k, mo_ps S k 22 0 = S 22 0
  | 0 => rfl
  | k + 1 => (w0_p2 _ _).trans ((w0_p1 _ _).trans (w0_ps S k))
theorem zn_ps (S : zS) (k : Nat) : zn (mo_ps S k) 22 0 = zn S 22 0 := congrArg Int32.toNatClampNeg (w0_ps S k)
theorem w0_mab1 (S : zS) : ∀ k, mo_ab1 S k 22 0 = S 22 0
  | 0 => rfl
  | k + 1 => w0_if ((w0_U (by omega)).trans ((w0_U (by omega)).trans (w0_mab1 S k))) (w0_mab1 S k)
theorem zdn_of (q : Nat) : nI q - nI 1 = zdn q := by
  cases q with
  | zero => decide
  | succ q => exact nI_pred q
theorem zdn_ge {q : Nat} (h : 0 ≤ zdn q) : 1 ≤ q := by
  cases q with
  | zero => exact absurd h (by decide)
  | succ q => omega
theorem zdn_nge {q : Nat} (hq : q < 2 ^ 31) (h : ¬ 0 ≤ zdn q) : q = 0 := by
  cases q with
  | zero => rfl
  | succ q => exact absurd (nI_pos' (show q < 2 ^ 31 by omega)) h
def mo_gs (W w : Nat) : Nat → Nat
  | 0 => 0
  | t + 1 => if (7 - t) * W / 8 = w then 10 * (7 - t) + mo_gs W w t % 10 + 1 else mo_gs W w t
def mo_mg (V W : Nat) : Nat → Nat
  | 0 => 0
  | g + 1 => mo_mg V W g + (if g * V / 8 = g * W / 8 then 0 else 1)
def mo_ek (S : zS) (key p : Nat) (a : Int32) : Nat → Int32
  | 0 => a
  | o + 1 => mo_ek S key p a o + (if zn S 1 (60 * p + o) / 1000 = key then nI (zn S 1 (60 * p + o) % 1000) else nI 0)
def mo_rs (S : zS) (key : Nat) : Nat → Int32
  | 0 => nI 0
  | p + 1 => mo_ek S key p (mo_rs S key p) (zn S 2 p)
def mo_op (S : zS) (w : Nat) : Nat → Int32
  | 0 => nI 0
  | k + 1 => mo_op S w k + (if zown (zn S 22 0) k = w then S 11 k else nI 0)
def mo_sk (g : Nat → Int32) (key b : Nat) (a : Int32) : Nat → Int32
  | 0 => a
  | j + 1 => mo_sk g key b a j + (if 0 < g (b + j) ∧ (g (b + j)).toNatClampNeg / 1000 = key then nI ((g (b + j)).toNatClampNeg % 1000) else nI 0)
def mo_sc (S : zS) (key : Nat) : Nat → Int32
  | 0 => nI 0
  | c + 1 => mo_sk (S 6) key (8 * c) (mo_sc S key c) (zn S 7 c)
theorem te_order (S : zS) (key v : Nat) : zU (zU (zU (zU S 9 (upd (S 9) key (S 9 key + nI 1))) 11 (upd (S 11) key (S 11 key + nI 1))) 10 (upd (S 10) key (S 10 key + nI v))) 12 (upd (S 12) key (S 12 key + nI v)) = sp_te S key v := by
  rw [zU_comm (zU S 9 (upd (S 9) key (S 9 key + nI 1))) (show 11 ≠ 10 by decide)]
  rfl
theorem zbad_in1 {x : Int32} {n : Nat} (h : zbad x n) (hn : n ≤ 60) : ¬ (nI 0 ≤ x ∧ x ≤ nI n - nI 1) := by
  intro q
  rcases h with h | h
  · exact absurd q.1 (Int32.not_le.mpr (by rw [nI_0]; exact h))
  · have h2 := Int32.le_trans h q.2
    rw [Int32.le_iff_toInt_le, pk_sub_toInt (by omega) (by omega), nI_toInt (by omega)] at h2
    omega
theorem mo_gs_le (W w : Nat) : ∀ t, mo_gs W w t ≤ 80
  | 0 => Nat.zero_le _
  | t + 1 => by
    have h := mo_gs_le W w t
    unfold mo_gs
    split <;> omega
