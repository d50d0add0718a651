/-! each call keeps the tie: to be proved -/
theorem iv_append {k : Nat} {S M : zS} (I : IV k S M) {p key v : Nat} (hp : p < 4) (hk : key < 32) (hv : v ≤ 100) (hn : zn S 0 p < 60) : IV (k + 1) (sp_app S p (nI (1000 * key + v))) (sp_app (zth M 0) p (nI (1000 * key + v))) := sorry
theorem iv_read {k : Nat} {S M : zS} (I : IV k S M) {p : Nat} (hp : p < 4) (hc : zcanR S p) : IV k (sp_read S p) (sp_read M p) := sorry
theorem iv_send {k : Nat} {S M : zS} (I : IV k S M) {p : Nat} (hp : p < 4) (hc1 : ¬ S 22 2 = (-1)) (hc2 : S 4 p = nI 0) (hc : ∀ w, w < zn S 22 0 → zn S 7 (4 * p + w) < 8) : IV k (sp_send S p) (mo_send M p) ∧ zn (sp_sb S p (zn S 22 0)) 2 p = zn (mo_send M p) 2 p := sorry
theorem iv_take {k : Nat} {S M : zS} (I : IV k S M) {p w : Nat} (hp : p < 4) (hw : w < zn S 22 0) (hc : zcanT S p w) : IV k (sp_tf S p w) (mo_tf M p w) ∧ sp_tfr S p w = mo_tfr M p w := sorry
theorem iv_pump {k : Nat} {S M : zS} (I : IV k S M) (t : Nat) : IV k (sp_pm S t) (mo_ps M (t * 4 * (zn M 22 0 + 1))) ∧ sp_pmc S t = mo_psc M (t * 4 * (zn M 22 0 + 1)) := sorry
theorem iv_commit {k : Nat} {S M : zS} (I : IV k S M) {w : Nat} (hw : w < zn S 22 0) (hc : zrdy S w) : IV k (sp_com S w) (mo_com M w) ∧ sp_comr S w = mo_comc M w 32 := sorry
theorem iv_may {k : Nat} {S M : zS} (I : IV k S M) {w : Nat} (hw : w < zn S 22 0) : zmay M w ↔ zrdy S w := sorry
theorem iv_begin {k : Nat} {S M : zS} (I : IV k S M) (hk : k ≤ 2000) (h1 : S 22 2 = (-1)) (h2 : ∀ w, w < zn S 22 0 → S 21 w = (-1)) : IV (k + 1) (sp_beg S) (mo_beg M) := sorry
theorem iv_none {k : Nat} {S M : zS} (I : IV k S M) : (M 21 0 = (-1) ∧ M 21 1 = (-1) ∧ M 21 2 = (-1) ∧ M 21 3 = (-1)) ↔ ∀ w, w < zn S 22 0 → S 21 w = (-1) := sorry
theorem iv_abandon {k : Nat} {S M : zS} (I : IV k S M) (h1 : ¬ S 22 2 = (-1)) : IV k (sp_ab S) (mo_ab M) ∧ S 22 2 = mo_ab1 M 32 22 2 := sorry
theorem iv_sa {k : Nat} {S M : zS} (I : IV k S M) {n : Nat} (h1 : 1 ≤ n) (h4 : n ≤ 4) : IV k (sp_sa S n) (mo_sa M n) := sorry
theorem iv_cr {k : Nat} {S M : zS} (I : IV k S M) : sp_cr S = mo_cr M := sorry
theorem mg_eq (V W : Nat) : ∀ g, sp_mg V W g = mo_mg V W g
  | 0 => rfl
  | g + 1 => by
    unfold sp_mg mo_mg
    rw [← mg_eq V W g]
    split <;> rfl
theorem gs_eq : ∀ W, 1 ≤ W → W ≤ 4 → ∀ w, w < W → 10 * sp_gf W w 8 + sp_go W w 8 = mo_gs W w 8 := by
  intro W h1 h4 w hw
  rcases (show W = 1 ∨ W = 2 ∨ W = 3 ∨ W = 4 by omega) with rfl | rfl | rfl | rfl
  · rcases (show w = 0 by omega) with rfl; decide
  · rcases (show w = 0 ∨ w = 1 by omega) with rfl | rfl <;> decide
  · rcases (show w = 0 ∨ w = 1 ∨ w = 2 by omega) with rfl | rfl | rfl <;> decide
  · rcases (show w = 0 ∨ w = 1 ∨ w = 2 ∨ w = 3 by omega) with rfl | rfl | rfl | rfl <;> decide
theorem iv_op {k : Nat} {S M : zS} (I : IV k S M) (w : Nat) : ∀ j, sp_op S w j = mo_op M w j
  | 0 => rfl
  | j + 1 => by
    unfold sp_op mo_op
    rw [iv_op I w j, I.W, I.sh 11 (by decide)]
    split
    · rfl
    · rw [nI_0, Int32.add_zero]
theorem iv_cm {k : Nat} {S M : zS} (I : IV k S M) : ∀ j, sp_cm S j = sp_cm M j
  | 0 => rfl
  | j + 1 => by
    unfold sp_cm
    rw [iv_cm I j, I.sh 19 (by decide)]
theorem mo_ek_add (S : zS) (key p : Nat) (a : Int32) : ∀ o, mo_ek S key p a o = a + sp_ek S key p o
  | 0 => by
    show a = a + nI 0
    rw [nI_0, Int32.add_zero]
  | o + 1 => by
    unfold mo_ek sp_ek sp_ae
    rw [mo_ek_add S key p a o]
    split
    · rw [Int32.add_assoc]
    · rw [nI_0, Int32.add_zero]
theorem iv_ek {k : Nat} {S M : zS} (I : IV k S M) (key p : Nat) : ∀ o, sp_ek S key p o = sp_ek M key p o
  | 0 => rfl
  | o + 1 => by
    unfold sp_ek
    rw [iv_ek I key p o, I.zn 1 _ (by decide)]
theorem iv_rs {k : Nat} {S M : zS} (I : IV k S M) (key : Nat) : ∀ j, sp_rs S key j = mo_rs M key j
  | 0 => rfl
  | j + 1 => by
    unfold sp_rs mo_rs
    rw [mo_ek_add, iv_rs I key j, iv_ek I key j, I.zn 2 _ (by decide)]
theorem mo_sk_eq (g : Nat → Int32) (key b : Nat) (a : Int32) : ∀ j, mo_sk g key b a j = sp_sk g key b j a
  | 0 => rfl
  | j + 1 => by
    unfold mo_sk sp_sk sp_add
    rw [mo_sk_eq g key b a j]
    split
    · rfl
    · rw [nI_0, Int32.add_zero]
theorem iv_sc {k : Nat} {S M : zS} (I : IV k S M) (key : Nat) : ∀ c, sp_sc S key c = mo_sc M key c
  | 0 => rfl
  | c + 1 => by
    unfold sp_sc mo_sc
    rw [mo_sk_eq, iv_sc I key c, I.sh 6 (by decide), I.zn 7 _ (by decide)]
theorem iv_neg {k : Nat} {S M : zS} (I : IV k S M) (h : ¬ S 22 2 = (-1)) : (-(S 22 2)).toInt ≤ 31100 := sorry
/-! the word of what was thrown stays -/
theorem t4_app (M : zS) (p : Nat) (x : Int32) : sp_app M p x 22 4 = M 22 4 := rfl
theorem t4_read (M : zS) (p : Nat) : sp_read M p 22 4 = M 22 4 := rfl
theorem t4_send (M : zS) (p : Nat) : mo_send M p 22 4 = M 22 4 := w2_sb _ _ _ _
theorem t4_tf (M : zS) (p w : Nat) : mo_tf M p w 22 4 = M 22 4 := sorry
theorem t4_ps (M : zS) (k : Nat) : mo_ps M k 22 4 = M 22 4 := sorry
theorem t4_com (M : zS) (w : Nat) : mo_com M w 22 4 = M 22 4 := sorry
theorem t4_beg (M : zS) : mo_beg M 22 4 = M 22 4 := by
  show upd (upd (M 22) 1 (M 22 1 + nI 1)) 2 (M 22 1 + nI 1) 4 = M 22 4
  rw [pk_un (by decide), pk_un (by decide)]
theorem t4_ab (M : zS) : mo_ab M 22 4 = M 22 4 := sorry
theorem t4_sa (M : zS) (n : Nat) : mo_sa M n 22 4 = M 22 4 := sorry
