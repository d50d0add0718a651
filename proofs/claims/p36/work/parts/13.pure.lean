def sp_put (S : zS) (c : Nat) (x : Int32) : zS := zU (zU S 6 (upd (S 6) (8 * c + zn S 7 c) x)) 7 (upd (S 7) c (nI (zn S 7 c + 1)))
def sp_sh (f : Nat → Int32) (b : Nat) : Nat → (Nat → Int32)
  | 0 => f
  | j + 1 => upd (sp_sh f b j) (b + j) (sp_sh f b j (b + j + 1))
def sp_rem (S : zS) (c : Nat) : zS := zU (zU S 6 (sp_sh (S 6) (8 * c) (zn S 7 c - 1))) 7 (upd (S 7) c (nI (zn S 7 c - 1)))
def sp_unb (f : Nat → Int32) (w : Nat) : Nat → (Nat → Int32)
  | 0 => f
  | q + 1 => upd (sp_unb f w q) (4 * q + w) (nI 0)
def sp_z (f : Nat → Int32) : Nat → (Nat → Int32)
  | 0 => f
  | k + 1 => upd (sp_z f k) k (nI 0)
def sp_add (x : Int32) (key : Nat) (a : Int32) : Int32 := if 0 < x ∧ x.toNatClampNeg / 1000 = key then a + nI (x.toNatClampNeg % 1000) else a
def sp_sk (g : Nat → Int32) (key b : Nat) : Nat → Int32 → Int32
  | 0, a => a
  | j + 1, a => sp_add (g (b + j)) key (sp_sk g key b j a)
def sp_sc (S : zS) (key : Nat) : Nat → Int32
  | 0 => nI 0
  | c + 1 => sp_sk (S 6) key (8 * c) (zn S 7 c) (sp_sc S key c)
theorem sp_add_no {x a : Int32} {key : Nat} (h : ¬ (0 < x ∧ x.toNatClampNeg / 1000 = key)) : sp_add x key a = a := if_neg h
theorem sp_add_yes {x a : Int32} {key : Nat} (h : 0 < x) (h2 : x.toNatClampNeg / 1000 = key) : sp_add x key a = a + nI (x.toNatClampNeg % 1000) := if_pos ⟨h, h2⟩
theorem zIb_sh {f : Nat → Int32} {b : Nat} (h : zIb f) : ∀ j, zIb (sp_sh f b j)
  | 0 => h
  | j + 1 => zIb_upd (zIb_sh h j) (zIb_sh h j _)
theorem zBb_unb {f : Nat → Int32} {w : Nat} (h : zBb f) : ∀ j, zBb (sp_unb f w j)
  | 0 => h
  | j + 1 => zBb_upd (zBb_unb h j) (Or.inl rfl)
theorem zBb_z {f : Nat → Int32} (h : zBb f) : ∀ j, zBb (sp_z f j)
  | 0 => h
  | j + 1 => zBb_upd (zBb_z h j) (Or.inl rfl)
theorem zNb_z {f : Nat → Int32} {n : Nat} (hn : n ≤ 31100) (h : zNb f n) : ∀ j, zNb (sp_z f j) n
  | 0 => h
  | j + 1 => zNb_upd (zNb_z hn h j) (Nat.zero_le _) hn
/-- one row changed -/
theorem zOK_6 {S : zS} {f : Nat → Int32} (h : zOK S) (hf : zIb f) : zOK (zU S 6 f) := ⟨h.1, h.2.1, h.2.2.1, h.2.2.2.1, h.2.2.2.2.1, h.2.2.2.2.2.1, hf, h.2.2.2.2.2.2.2⟩
theorem zOK_7 {S : zS} {f : Nat → Int32} (h : zOK S) (hf : zNb f 8) : zOK (zU S 7 f) := ⟨h.1, h.2.1, h.2.2.1, h.2.2.2.1, h.2.2.2.2.1, h.2.2.2.2.2.1, h.2.2.2.2.2.2.1, hf, h.2.2.2.2.2.2.2.2⟩
theorem zOK_8 {S : zS} {f : Nat → Int32} (h : zOK S) (hf : zBb f) : zOK (zU S 8 f) := ⟨h.1, h.2.1, h.2.2.1, h.2.2.2.1, h.2.2.2.2.1, h.2.2.2.2.2.1, h.2.2.2.2.2.2.1, h.2.2.2.2.2.2.2.1, hf, h.2.2.2.2.2.2.2.2.2⟩
theorem zOK_0 {S : zS} {f : Nat → Int32} (h : zOK S) (hf : zNb f 60) : zOK (zU S 0 f) := ⟨hf, h.2⟩
theorem zOK_1 {S : zS} {f : Nat → Int32} (h : zOK S) (hf : zNb f 31100) : zOK (zU S 1 f) := ⟨h.1, hf, h.2.2⟩
theorem zOK_2 {S : zS} {f : Nat → Int32} (h : zOK S) (hf : zNb f 60) : zOK (zU S 2 f) := ⟨h.1, h.2.1, hf, h.2.2.2⟩
theorem zOK_3 {S : zS} {f : Nat → Int32} (h : zOK S) (hf : zNb f 60) : zOK (zU S 3 f) := ⟨h.1, h.2.1, h.2.2.1, hf, h.2.2.2.2⟩
theorem zOK_4 {S : zS} {f : Nat → Int32} (h : zOK S) (hf : zBb f) : zOK (zU S 4 f) := ⟨h.1, h.2.1, h.2.2.1, h.2.2.2.1, hf, h.2.2.2.2.2⟩
theorem zOK_5 {S : zS} {f : Nat → Int32} (h : zOK S) (hf : zNb f 60) : zOK (zU S 5 f) := ⟨h.1, h.2.1, h.2.2.1, h.2.2.2.1, h.2.2.2.2.1, hf, h.2.2.2.2.2.2⟩
theorem zOK_o {S : zS} {k : Nat} {f : Nat → Int32} (h : zOK S) (hk : 9 ≤ k) (hk2 : k ≠ 22) : zOK (zU S k f) := by
  obtain ⟨h0, h1, h2, h3, h4, h5, h6, h7, h8, h9⟩ := h
  have e : ∀ j, j ≠ k → zU S k f j = S j := fun j hj => zU_n hj
  refine ⟨?_, ?_, ?_, ?_, ?_, ?_, ?_, ?_, ?_, ?_⟩
  · rw [e 0 (by omega)]; exact h0
  · rw [e 1 (by omega)]; exact h1
  · rw [e 2 (by omega)]; exact h2
  · rw [e 3 (by omega)]; exact h3
  · rw [e 4 (by omega)]; exact h4
  · rw [e 5 (by omega)]; exact h5
  · rw [e 6 (by omega)]; exact h6
  · rw [e 7 (by omega)]; exact h7
  · rw [e 8 (by omega)]; exact h8
  · unfold zn
    rw [e 22 (fun q => hk2 q.symm)]
    exact h9
theorem zOK_put {S : zS} {c : Nat} {x : Int32} (h : zOK S) (hn : zn S 7 c < 8) (hx : x.toInt ≤ 31100) : zOK (sp_put S c x) :=
  zOK_7 (zOK_6 h (zIb_upd h.2.2.2.2.2.2.1 hx)) (zNb_upd h.2.2.2.2.2.2.2.1 (by omega) (by omega))
theorem zOK_rem {S : zS} {c : Nat} (h : zOK S) : zOK (sp_rem S c) :=
  zOK_7 (zOK_6 h (zIb_sh h.2.2.2.2.2.2.1 _)) (zNb_upd h.2.2.2.2.2.2.2.1 (by have := (h.n7 c).2; omega) (by omega))
def sp_app (S : zS) (p : Nat) (x : Int32) : zS := zU (zU S 1 (upd (S 1) (60 * p + zn S 0 p) x)) 0 (upd (S 0) p (nI (zn S 0 p + 1)))
def sp_ae (x key : Nat) (a : Int32) : Int32 := if x / 1000 = key then a + nI (x % 1000) else a
def sp_ek (S : zS) (key p : Nat) : Nat → Int32
  | 0 => nI 0
  | o + 1 => sp_ae (zn S 1 (60 * p + o)) key (sp_ek S key p o)
def sp_cp (f g : Nat → Int32) : Nat → (Nat → Int32)
  | 0 => f
  | k + 1 => upd (sp_cp f g k) k (g k)
def sp_keep (S : zS) (p : Nat) : zS := zU (zU S 4 (upd (S 4) p (nI 1))) 5 (upd (S 5) p (nI (zn S 2 p)))
def sp_tadd (S : zS) (c key : Nat) (a b : Int32) : zS := zU (zU S c (upd (S c) key (S c key + a))) (c + 1) (upd (S (c + 1)) key (S (c + 1) key + b))
def sp_tck (S : zS) (c d key : Nat) : zS := zU (zU S c (upd (S c) key (S d key))) (c + 1) (upd (S (c + 1)) key (S (d + 1) key))
def sp_tca (S : zS) (c d : Nat) : zS := zU (zU S c (sp_cp (S c) (S d) 32)) (c + 1) (sp_cp (S (c + 1)) (S (d + 1)) 32)
def sp_tclk (S : zS) (c key : Nat) : zS := zU (zU S c (upd (S c) key (nI 0))) (c + 1) (upd (S (c + 1)) key (nI 0))
def sp_tz (S : zS) (c k : Nat) : zS := zU (zU S c (sp_z (S c) k)) (c + 1) (sp_z (S (c + 1)) k)
theorem zU2_self (S : zS) (c d : Nat) : zU (zU S c (S c)) d (S d) = S := by
  rw [zU_self, zU_self]
theorem sp_tz_0 (S : zS) (c : Nat) : sp_tz S c 0 = S := zU2_self S c (c + 1)
theorem sp_tz_s (S : zS) (c k : Nat) : sp_tz S c (k + 1) = sp_tclk (sp_tz S c k) c k := by
  unfold sp_tz sp_tclk
  funext j
  by_cases h1 : j = c + 1
  · subst h1
    simp only [zU_s]
    rfl
  · by_cases h2 : j = c
    · subst h2
      simp only [zU_n h1, zU_s]
      rfl
    · simp only [zU_n h1, zU_n h2]
theorem zNb_cp {f g : Nat → Int32} {n : Nat} (hn : n ≤ 31100) (h : zNb f n) (hg : zNb g n) : ∀ j, zNb (sp_cp f g j) n
  | 0 => h
  | j + 1 => by
    rw [show sp_cp f g (j + 1) = upd (sp_cp f g j) j (nI (g j).toNatClampNeg) from by rw [← (hg j).1]; rfl]
    exact zNb_upd (zNb_cp hn h hg j) (hg j).2 hn
theorem zOK_tadd {S : zS} {c key : Nat} {a b : Int32} (h : zOK S) (hc : 9 ≤ c) (hc2 : c ≤ 20) : zOK (sp_tadd S c key a b) := zOK_o (zOK_o h hc (by omega)) (by omega) (by omega)
theorem zOK_tck {S : zS} {c d key : Nat} (h : zOK S) (hc : 9 ≤ c) (hc2 : c ≤ 20) : zOK (sp_tck S c d key) := zOK_o (zOK_o h hc (by omega)) (by omega) (by omega)
theorem zOK_tca {S : zS} {c d : Nat} (h : zOK S) (hc : 9 ≤ c) (hc2 : c ≤ 20) : zOK (sp_tca S c d) := zOK_o (zOK_o h hc (by omega)) (by omega) (by omega)
theorem zOK_tclk {S : zS} {c key : Nat} (h : zOK S) (hc : 9 ≤ c) (hc2 : c ≤ 20) : zOK (sp_tclk S c key) := zOK_o (zOK_o h hc (by omega)) (by omega) (by omega)
theorem zOK_tz {S : zS} {c k : Nat} (h : zOK S) (hc : 9 ≤ c) (hc2 : c ≤ 20) : zOK (sp_tz S c k) := zOK_o (zOK_o h hc (by omega)) (by omega) (by omega)
/-! the class: workers and keys -/
def zown (W key : Nat) : Nat := key % 8 * W / 8
theorem zown_lt {W key : Nat} (h1 : 1 ≤ W) (h4 : W ≤ 4) : zown W key < W := by
  unfold zown
  have h := Nat.mul_le_mul_right W (show key % 8 ≤ 7 by omega)
  generalize key % 8 * W = t at h
  omega
theorem zOK.own {S : zS} (h : zOK S) (key : Nat) : zown (zn S 22 0) key < zn S 22 0 ∧ zown (zn S 22 0) key < 4 := by
  have h1 := zown_lt (key := key) h.w.2.1 h.w.2.2
  have h2 := h.w.2.2
  exact ⟨h1, by omega⟩
abbrev zev (S : zS) (p : Nat) : Nat := zn S 1 (60 * p + zn S 2 p)
abbrev zrw (S : zS) (p : Nat) : Nat := zown (zn S 22 0) (zev S p / 1000)
abbrev zcanR (S : zS) (p : Nat) : Prop := zn S 2 p < zn S 0 p ∧ zn S 7 (4 * p + zrw S p) < 8
def sp_read (S : zS) (p : Nat) : zS := zU (sp_put S (4 * p + zrw S p) (nI (zev S p))) 2 (upd (S 2) p (nI (zn S 2 p + 1)))
theorem nI_31100 {e : Nat} (h : e ≤ 31100) : (nI e).toInt ≤ 31100 := by rw [nI_toInt (by omega)]; omega
theorem zOK_read {S : zS} {p : Nat} (h : zOK S) (hc : zcanR S p) : zOK (sp_read S p) := by
  refine zOK_2 (zOK_put h hc.2 (nI_31100 (h.n1 _).2)) (zNb_upd h.2.2.1 ?_ (by omega))
  have h1 := hc.1
  have h2 := (h.n0 p).2
  omega
abbrev zcanT (S : zS) (p w : Nat) : Prop := 0 < zn S 7 (4 * p + w) ∧ ¬ S 8 (4 * p + w) = nI 1
def sp_te (S : zS) (key v : Nat) : zS := sp_tadd (sp_tadd S 9 key (nI 1) (nI v)) 11 key (nI 1) (nI v)
theorem zOK_te {S : zS} {key v : Nat} (h : zOK S) : zOK (sp_te S key v) := zOK_tadd (zOK_tadd h (by omega) (by omega)) (by omega) (by omega)
def sp_ck (S : zS) (w : Nat) : Nat → zS
  | 0 => S
  | k + 1 => if zown (zn (sp_ck S w k) 22 0) k = w then sp_tck (sp_ck S w k) 15 9 k else sp_ck S w k
theorem zOK_if {c : Prop} [Decidable c] {S T : zS} (h1 : c → zOK S) (h2 : ¬ c → zOK T) : zOK (if c then S else T) := by
  split
  · rename_i h; exact h1 h
  · rename_i h; exact h2 h
theorem zOK_ck {S : zS} {w : Nat} (h : zOK S) : ∀ k, zOK (sp_ck S w k)
  | 0 => h
  | k + 1 => zOK_if (fun _ => zOK_tck (zOK_ck h k) (by omega) (by omega)) (fun _ => zOK_ck h k)
/-- all of a kind that a worker has moves into another kind; how many -/
def sp_mv (S : zS) (a b w : Nat) : Nat → zS
  | 0 => S
  | k + 1 => if zown (zn (sp_mv S a b w k) 22 0) k = w then sp_tclk (sp_tadd (sp_mv S a b w k) b k (sp_mv S a b w k a k) (sp_mv S a b w k (a + 1) k)) a k else sp_mv S a b w k
def sp_mc (S : zS) (a b w : Nat) : Nat → Int32
  | 0 => nI 0
  | k + 1 => if zown (zn (sp_mv S a b w k) 22 0) k = w then sp_mc S a b w k + sp_mv S a b w k a k else sp_mc S a b w k
theorem zOK_mv {S : zS} {a b w : Nat} (h : zOK S) (ha : 9 ≤ a) (ha2 : a ≤ 20) (hb : 9 ≤ b) (hb2 : b ≤ 20) : ∀ k, zOK (sp_mv S a b w k)
  | 0 => h
  | k + 1 => zOK_if (fun _ => zOK_tclk (zOK_tadd (zOK_mv h ha ha2 hb hb2 k) hb hb2) ha ha2) (fun _ => zOK_mv h ha ha2 hb hb2 k)
theorem zOK_22 {S : zS} {i : Nat} {x : Int32} (h : zOK S) (hi : i ≠ 0) : zOK (zU S 22 (upd (S 22) i x)) := by
  obtain ⟨h0, h1, h2, h3, h4, h5, h6, h7, h8, h9⟩ := h
  refine ⟨h0, h1, h2, h3, h4, h5, h6, h7, h8, ?_⟩
  unfold zn
  rw [zU_s, pk_un (fun q => hi q.symm)]
  exact h9
abbrev zallS (S : zS) : Prop := ∀ w, w < zn S 22 0 → ¬ S 21 w = (-1)
def sp_cc (S : zS) : zS := zU (zU (sp_tca S 17 15) 3 (sp_cp (sp_tca S 17 15 3) (sp_tca S 17 15 5) 4)) 22 (upd (upd (S 22) 3 (S 22 2)) 2 (-1))
theorem zOK_cc {S : zS} (h : zOK S) : zOK (sp_cc S) := by
  have h1 : zOK (sp_tca S 17 15) := zOK_tca h (by omega) (by omega)
  have h2 : zOK (zU (sp_tca S 17 15) 3 (sp_cp (sp_tca S 17 15 3) (sp_tca S 17 15 5) 4)) := zOK_3 h1 (zNb_cp (by omega) h1.2.2.2.1 h1.2.2.2.2.2.1 4)
  have h3 := zOK_22 (i := 2) (x := -1) (zOK_22 (i := 3) (x := S 22 2) h2 (by omega)) (by omega)
  rw [zU_U] at h3
  exact h3
def sp_seal0 (S : zS) (w : Nat) : zS := zU (sp_mv (sp_ck S w 32) 11 13 w 32) 21 (upd (sp_mv (sp_ck S w 32) 11 13 w 32 21) w (sp_mv (sp_ck S w 32) 11 13 w 32 22 2))
def sp_seal1 (S : zS) (w : Nat) : zS := zU (sp_seal0 S w) 8 (sp_unb (sp_seal0 S w 8) w 4)
def sp_seal (S : zS) (w : Nat) : zS := if zallS (sp_seal1 S w) then sp_cc (sp_seal1 S w) else sp_seal1 S w
theorem zOK_seal0 {S : zS} {w : Nat} (h : zOK S) : zOK (sp_seal0 S w) := zOK_o (zOK_mv (zOK_ck h 32) (by omega) (by omega) (by omega) (by omega) 32) (by omega) (by omega)
theorem zOK_seal1 {S : zS} {w : Nat} (h : zOK S) : zOK (sp_seal1 S w) := zOK_8 (zOK_seal0 h) (zBb_unb (zOK_seal0 h).2.2.2.2.2.2.2.2.1 4)
theorem zOK_seal {S : zS} {w : Nat} (h : zOK S) : zOK (sp_seal S w) := zOK_if (fun _ => zOK_cc (zOK_seal1 h)) (fun _ => zOK_seal1 h)
def sp_blk (S : zS) (p w : Nat) : zS := zU S 8 (upd (S 8) (4 * p + w) (nI 1))
abbrev zallB (S : zS) (w : Nat) : Prop := ∀ q, q < 4 → S 8 (4 * q + w) = nI 1
def sp_tb (S : zS) (p w : Nat) : zS := if zallB (sp_blk S p w) w then sp_seal (sp_blk S p w) w else sp_blk S p w
theorem zOK_blk {S : zS} {p w : Nat} (h : zOK S) : zOK (sp_blk S p w) := zOK_8 h (zBb_upd h.2.2.2.2.2.2.2.2.1 (Or.inr rfl))
theorem zOK_tb {S : zS} {p w : Nat} (h : zOK S) : zOK (sp_tb S p w) := zOK_if (fun _ => zOK_seal (zOK_blk h)) (fun _ => zOK_blk h)
def sp_tf (S : zS) (p w : Nat) : zS := if 0 < S 6 (8 * (4 * p + w)) then sp_te (sp_rem S (4 * p + w)) (zn S 6 (8 * (4 * p + w)) / 1000) (zn S 6 (8 * (4 * p + w)) % 1000) else if -(S 6 (8 * (4 * p + w))) = S 22 2 then sp_tb (sp_rem S (4 * p + w)) p w else sp_rem S (4 * p + w)
def sp_tfr (S : zS) (p w : Nat) : Int32 := if 0 < S 6 (8 * (4 * p + w)) then sp_tf S p w 9 (zn S 6 (8 * (4 * p + w)) / 1000) else nI 0
theorem zOK_tf {S : zS} {p w : Nat} (h : zOK S) : zOK (sp_tf S p w) := zOK_if (fun _ => zOK_te (zOK_rem h)) (fun _ => zOK_if (fun _ => zOK_tb (zOK_rem h)) (fun _ => zOK_rem h))
def sp_rr (S : zS) : Nat → zS
  | 0 => S
  | p + 1 => if zcanR (sp_rr S p) p then sp_read (sp_rr S p) p else sp_rr S p
def sp_rrc (S : zS) : Nat → Nat
  | 0 => 0
  | p + 1 => if zcanR (sp_rr S p) p then sp_rrc S p + 1 else sp_rrc S p
theorem zOK_rr {S : zS} (h : zOK S) : ∀ p, zOK (sp_rr S p)
  | 0 => h
  | p + 1 => zOK_if (fun q => zOK_read (zOK_rr h p) q) (fun _ => zOK_rr h p)
theorem sp_rrc_le (S : zS) : ∀ p, sp_rrc S p ≤ p
  | 0 => Nat.le_refl 0
  | p + 1 => by
    have h := sp_rrc_le S p
    unfold sp_rrc
    split <;> omega
def sp_tw (S : zS) (w : Nat) : Nat → zS
  | 0 => S
  | p + 1 => if zcanT (sp_tw S w p) p w then sp_tf (sp_tw S w p) p w else sp_tw S w p
def sp_twc (S : zS) (w : Nat) : Nat → Nat
  | 0 => 0
  | p + 1 => if zcanT (sp_tw S w p) p w then sp_twc S w p + 1 else sp_twc S w p
theorem zOK_tw {S : zS} {w : Nat} (h : zOK S) : ∀ p, zOK (sp_tw S w p)
  | 0 => h
  | p + 1 => zOK_if (fun _ => zOK_tf (zOK_tw h p)) (fun _ => zOK_tw h p)
theorem sp_twc_le (S : zS) (w : Nat) : ∀ p, sp_twc S w p ≤ p
  | 0 => Nat.le_refl 0
  | p + 1 => by
    have h := sp_twc_le S w p
    unfold sp_twc
    split <;> omega
def sp_tt (S : zS) : Nat → zS
  | 0 => S
  | w + 1 => sp_tw (sp_tt S w) w 4
def sp_ttc (S : zS) : Nat → Nat
  | 0 => 0
  | w + 1 => sp_ttc S w + sp_twc (sp_tt S w) w 4
theorem zOK_tt {S : zS} (h : zOK S) : ∀ w, zOK (sp_tt S w)
  | 0 => h
  | w + 1 => zOK_tw (zOK_tt h w) 4
theorem sp_ttc_le (S : zS) : ∀ w, sp_ttc S w ≤ 4 * w
  | 0 => Nat.le_refl 0
  | w + 1 => by
    have h := sp_ttc_le S w
    have h2 := sp_twc_le (sp_tt S w) w 4
    show sp_ttc S w + sp_twc (sp_tt S w) w 4 ≤ 4 * (w + 1)
    omega
abbrev zrdy (S : zS) (w : Nat) : Prop := ¬ S 21 w = (-1) ∧ S 21 w = S 22 3
def sp_un (S : zS) (w : Nat) : zS := zU S 21 (upd (S 21) w (-1))
def sp_com (S : zS) (w : Nat) : zS := sp_mv (sp_un S w) 13 19 w 32
def sp_comr (S : zS) (w : Nat) : Int32 := sp_mc (sp_un S w) 13 19 w 32
theorem zOK_un {S : zS} {w : Nat} (h : zOK S) : zOK (sp_un S w) := zOK_o h (by omega) (by omega)
theorem zOK_com {S : zS} {w : Nat} (h : zOK S) : zOK (sp_com S w) := zOK_mv (zOK_un h) (by omega) (by omega) (by omega) (by omega) 32
def sp_sa1 (S : zS) : Nat → zS
  | 0 => S
  | w + 1 => sp_un (if zrdy (sp_sa1 S w) w then sp_com (sp_sa1 S w) w else sp_sa1 S w) w
theorem zOK_sa1 {S : zS} (h : zOK S) : ∀ w, zOK (sp_sa1 S w)
  | 0 => h
  | w + 1 => zOK_un (zOK_if (fun _ => zOK_com (zOK_sa1 h w)) (fun _ => zOK_sa1 h w))
def sp_sa2 (T : zS) : zS := zU T 22 (upd (T 22) 2 (-1))
def sp_sa3 (T : zS) : zS := zU (zU T 7 (sp_z (T 7) 16)) 8 (sp_z (T 8) 16)
def sp_sa4 (T : zS) : zS := zU T 2 (sp_cp (T 2) (T 3) 4)
def sp_sa5 (S : zS) : zS := sp_tca (sp_sa4 (sp_sa3 (sp_tz (sp_tz (sp_sa2 (sp_sa1 S (zn S 22 0))) 11 32) 13 32))) 9 17
def sp_sa (S : zS) (n : Nat) : zS := zU (sp_sa5 S) 22 (upd (sp_sa5 S 22) 0 (nI n))
/-! the number of workers stays -/
theorem w0_U {S : zS} {k : Nat} {f : Nat → Int32} (h : 22 ≠ k) : zU S k f 22 0 = S 22 0 := by rw [zU_n h]
theorem w0_tadd {S : zS} {c key : Nat} {a b : Int32} (hc : c ≤ 20) : sp_tadd S c key a b 22 0 = S 22 0 := (w0_U (by omega)).trans (w0_U (by omega))
theorem w0_tck {S : zS} {c d key : Nat} (hc : c ≤ 20) : sp_tck S c d key 22 0 = S 22 0 := (w0_U (by omega)).trans (w0_U (by omega))
theorem w0_tca {S : zS} {c d : Nat} (hc : c ≤ 20) : sp_tca S c d 22 0 = S 22 0 := (w0_U (by omega)).trans (w0_U (by omega))
theorem w0_tclk {S : zS} {c key : Nat} (hc : c ≤ 20) : sp_tclk S c key 22 0 = S 22 0 := (w0_U (by omega)).trans (w0_U (by omega))
theorem w0_tz {S : zS} {c k : Nat} (hc : c ≤ 20) : sp_tz S c k 22 0 = S 22 0 := (w0_U (by omega)).trans (w0_U (by omega))
theorem w0_if {c : Prop} [Decidable c] {S T : zS} {x : Int32} (h1 : S 22 0 = x) (h2 : T 22 0 = x) : (if c then S else T) 22 0 = x := by
  split
  · exact h1
  · exact h2
theorem w0_ck (S : zS) (w : Nat) : ∀ k, sp_ck S w k 22 0 = S 22 0
  | 0 => rfl
  | k + 1 => w0_if ((w0_tck (by omega)).trans (w0_ck S w k)) (w0_ck S w k)
theorem w0_mv (S : zS) {a b : Nat} (w : Nat) (ha : a ≤ 20) (hb : b ≤ 20) : ∀ k, sp_mv S a b w k 22 0 = S 22 0
  | 0 => rfl
  | k + 1 => w0_if ((w0_tclk ha).trans ((w0_tadd hb).trans (w0_mv S w ha hb k))) (w0_mv S w ha hb k)
theorem w0_cc (S : zS) : sp_cc S 22 0 = S 22 0 := by
  unfold sp_cc
  rw [zU_s, pk_un (by omega), pk_un (by omega)]
theorem w0_seal1 (S : zS) (w : Nat) : sp_seal1 S w 22 0 = S 22 0 := (w0_U (by omega)).trans ((w0_U (by omega)).trans ((w0_mv _ w (by omega) (by omega) 32).trans (w0_ck S w 32)))
theorem w0_seal (S : zS) (w : Nat) : sp_seal S w 22 0 = S 22 0 := w0_if ((w0_cc _).trans (w0_seal1 S w)) (w0_seal1 S w)
theorem w0_tb (S : zS) (p w : Nat) : sp_tb S p w 22 0 = S 22 0 := w0_if ((w0_seal _ w).trans (w0_U (by omega))) (w0_U (by omega))
theorem w0_rem (S : zS) (c : Nat) : sp_rem S c 22 0 = S 22 0 := (w0_U (by omega)).trans (w0_U (by omega))
theorem w0_tf (S : zS) (p w : Nat) : sp_tf S p w 22 0 = S 22 0 := w0_if ((w0_tadd (by omega)).trans ((w0_tadd (by omega)).trans (w0_rem S _))) (w0_if ((w0_tb _ p w).trans (w0_rem S _)) (w0_rem S _))
theorem w0_tw (S : zS) (w : Nat) : ∀ p, sp_tw S w p 22 0 = S 22 0
  | 0 => rfl
  | p + 1 => w0_if ((w0_tf _ p w).trans (w0_tw S w p)) (w0_tw S w p)
theorem w0_tt (S : zS) : ∀ w, sp_tt S w 22 0 = S 22 0
  | 0 => rfl
  | w + 1 => (w0_tw _ w 4).trans (w0_tt S w)
theorem zn_tt (S : zS) (w : Nat) : zn (sp_tt S w) 22 0 = zn S 22 0 := congrArg Int32.toNatClampNeg (w0_tt S w)
theorem w0_un (S : zS) (w : Nat) : sp_un S w 22 0 = S 22 0 := w0_U (by omega)
theorem w0_com (S : zS) (w : Nat) : sp_com S w 22 0 = S 22 0 := (w0_mv _ w (by omega) (by omega) 32).trans (w0_un S w)
theorem w0_sa1 (S : zS) : ∀ w, sp_sa1 S w 22 0 = S 22 0
  | 0 => rfl
  | w + 1 => (w0_un _ w).trans (w0_if ((w0_com _ w).trans (w0_sa1 S w)) (w0_sa1 S w))
theorem zn_sa1 (S : zS) (w : Nat) : zn (sp_sa1 S w) 22 0 = zn S 22 0 := congrArg Int32.toNatClampNeg (w0_sa1 S w)
theorem w0_read (S : zS) (p : Nat) : sp_read S p 22 0 = S 22 0 := (w0_U (by omega)).trans ((w0_U (by omega)).trans (w0_U (by omega)))
theorem w0_rr (S : zS) : ∀ p, sp_rr S p 22 0 = S 22 0
  | 0 => rfl
  | p + 1 => w0_if ((w0_read _ p).trans (w0_rr S p)) (w0_rr S p)
theorem zOK_220 {S : zS} {n : Nat} (h : zOK S) (h1 : 1 ≤ n) (h4 : n ≤ 4) : zOK (zU S 22 (upd (S 22) 0 (nI n))) := by
  obtain ⟨h0, h1', h2, h3, h4', h5, h6, h7, h8, h9⟩ := h
  refine ⟨h0, h1', h2, h3, h4', h5, h6, h7, h8, ?_⟩
  unfold zn
  rw [zU_s, pk_us, nI_cl (by omega)]
  exact ⟨rfl, h1, h4⟩
theorem zOK_sa3 {T : zS} (h : zOK T) : zOK (sp_sa3 T) := zOK_8 (zOK_7 h (zNb_z (by omega) h.2.2.2.2.2.2.2.1 16)) (zBb_z h.2.2.2.2.2.2.2.2.1 16)
theorem zOK_sa4 {T : zS} (h : zOK T) : zOK (sp_sa4 T) := zOK_2 h (zNb_cp (by omega) h.2.2.1 h.2.2.2.1 4)
theorem zOK_sa5 {S : zS} (h : zOK S) : zOK (sp_sa5 S) := zOK_tca (zOK_sa4 (zOK_sa3 (zOK_tz (zOK_tz (zOK_22 (zOK_sa1 h _) (by omega)) (by omega) (by omega)) (by omega) (by omega)))) (by omega) (by omega)
theorem zOK_sa {S : zS} {n : Nat} (h : zOK S) (h1 : 1 ≤ n) (h4 : n ≤ 4) : zOK (sp_sa S n) := zOK_220 (zOK_sa5 h) h1 h4
/-! arguments that are refused -/
def zbad (x : Int32) (n : Nat) : Prop := x < 0 ∨ nI n ≤ x
theorem zbad_no {x : Int32} {n : Nat} (h : zbad x n) (h1 : ¬ x < 0) (h2 : x < nI n) : False := h.elim h1 (fun q => absurd h2 (Int32.not_lt.mpr q))
def zbadv (x : Int32) (lo hi : Nat) : Prop := x < nI lo ∨ nI hi < x
theorem zbadv_no {x : Int32} {lo hi : Nat} (h : zbadv x lo hi) (h1 : ¬ x < nI lo) (h2 : x ≤ nI hi) : False := h.elim h1 (fun q => absurd h2 (Int32.not_le.mpr q))
theorem zcases (x : Int32) {n : Nat} (hn : n < 2 ^ 31) : zbad x n ∨ ∃ j : Nat, j < n ∧ x = nI j := by
  rcases pk_ix x hn with h | h | h
  · exact Or.inl (Or.inl h)
  · exact Or.inl (Or.inr h)
  · exact Or.inr h
theorem zcasesv (x : Int32) {lo hi : Nat} (hn : hi < 2147483647) (hlo : lo ≤ hi) : zbadv x lo hi ∨ ∃ j : Nat, lo ≤ j ∧ j ≤ hi ∧ x = nI j := by
  rcases zcases x (n := hi + 1) (by omega) with (h | h) | ⟨j, hj, rfl⟩
  · refine Or.inl (Or.inl ?_)
    rw [Int32.lt_iff_toInt_lt] at h ⊢
    rw [nI_toInt (by omega)]
    simp only [Int32.toInt_zero] at h
    omega
  · refine Or.inl (Or.inr ?_)
    rw [Int32.le_iff_toInt_le, nI_toInt (by omega)] at h
    rw [Int32.lt_iff_toInt_lt, nI_toInt (by omega)]
    omega
  · by_cases q : lo ≤ j
    · exact Or.inr ⟨j, q, by omega, rfl⟩
    · exact Or.inl (Or.inl (nI_lt (by omega) (by omega)))
theorem zNb_app {S : zS} {p : Nat} (h : zOK S) (hn : zn S 0 p < 60) : zNb (upd (S 0) p (nI (zn S 0 p + 1))) 60 := zNb_upd h.1 (by omega) (by omega)
theorem zOK_app {S : zS} {p e : Nat} (h : zOK S) (hn : zn S 0 p < 60) (he : e ≤ 31100) : zOK (sp_app S p (nI e)) := zOK_0 (zOK_1 h (zNb_upd h.2.1 he (by omega))) (zNb_app h hn)
/-- a reader's barrier goes into the channels of k workers -/
def sp_sb (S : zS) (p : Nat) : Nat → zS
  | 0 => S
  | k + 1 => sp_put (sp_sb S p k) (4 * p + k) (-(sp_sb S p k 22 2))
theorem w2_put (S : zS) (c : Nat) (x : Int32) (i : Nat) : sp_put S c x 22 i = S 22 i := rfl
theorem w2_sb (S : zS) (p i : Nat) : ∀ k, sp_sb S p k 22 i = S 22 i
  | 0 => rfl
  | k + 1 => (w2_put _ _ _ _).trans (w2_sb S p i k)
theorem zn_sb7 (S : zS) (p : Nat) : ∀ k c, 4 * p + k ≤ c → zn (sp_sb S p k) 7 c = zn S 7 c
  | 0, _, _ => rfl
  | k + 1, c, h => by
    rw [← zn_sb7 S p k c (by omega)]
    show (upd (sp_sb S p k 7) (4 * p + k) (nI (zn (sp_sb S p k) 7 (4 * p + k) + 1)) c).toNatClampNeg = (sp_sb S p k 7 c).toNatClampNeg
    rw [pk_un (by omega)]
theorem zOK_sb {S : zS} {p W : Nat} (h : zOK S) (hx : (-(S 22 2)).toInt ≤ 31100) (hn : ∀ w, w < W → zn S 7 (4 * p + w) < 8) : ∀ k, k ≤ W → zOK (sp_sb S p k)
  | 0, _ => h
  | k + 1, hk => zOK_put (zOK_sb h hx hn k (by omega)) (by rw [zn_sb7 S p k _ (by omega)]; exact hn k (by omega)) (by rw [w2_sb]; exact hx)
def sp_send (S : zS) (p : Nat) : zS := sp_keep (sp_sb S p (zn S 22 0)) p
theorem zOK_keep {S : zS} {p : Nat} (h : zOK S) : zOK (sp_keep S p) := zOK_5 (zOK_4 h (zBb_upd h.2.2.2.2.1 (Or.inr rfl))) (zNb_upd h.2.2.2.2.2.1 (h.n2 p).2 (by omega))
/-- rounds -/
def sp_rd (S : zS) : zS := sp_tt (sp_rr S 4) (zn (sp_rr S 4) 22 0)
def sp_rdc (S : zS) : Nat := sp_rrc S 4 + sp_ttc (sp_rr S 4) (zn (sp_rr S 4) 22 0)
def sp_pm (S : zS) : Nat → zS
  | 0 => S
  | k + 1 => sp_rd (sp_pm S k)
def sp_pmc (S : zS) : Nat → Nat
  | 0 => 0
  | k + 1 => sp_pmc S k + sp_rdc (sp_pm S k)
theorem zOK_rd {S : zS} (h : zOK S) : zOK (sp_rd S) := zOK_tt (zOK_rr h 4) _
theorem zOK_pm {S : zS} (h : zOK S) : ∀ k, zOK (sp_pm S k)
  | 0 => h
  | k + 1 => zOK_rd (zOK_pm h k)
/-- begin, abandon -/
def sp_beg (S : zS) : zS := zU (zU S 22 (upd (upd (S 22) 1 (S 22 1 + nI 1)) 2 (S 22 1 + nI 1))) 4 (sp_z (S 4) 4)
def sp_ab1 (S : zS) : Nat → zS
  | 0 => S
  | w + 1 => if zU (sp_ab1 S w) 8 (sp_unb (sp_ab1 S w 8) w 4) 21 w = S 22 2 then sp_un (sp_mv (zU (sp_ab1 S w) 8 (sp_unb (sp_ab1 S w 8) w 4)) 13 11 w 32) w else zU (sp_ab1 S w) 8 (sp_unb (sp_ab1 S w 8) w 4)
theorem zOK_u8 {S : zS} {w : Nat} (h : zOK S) : zOK (zU S 8 (sp_unb (S 8) w 4)) := zOK_8 h (zBb_unb h.2.2.2.2.2.2.2.2.1 4)
theorem zOK_ab1 {S : zS} (h : zOK S) : ∀ w, zOK (sp_ab1 S w)
  | 0 => h
  | w + 1 => zOK_if (fun _ => zOK_un (zOK_mv (zOK_u8 (zOK_ab1 h w)) (by omega) (by omega) (by omega) (by omega) 32)) (fun _ => zOK_u8 (zOK_ab1 h w))
theorem w0_ab1 (S : zS) : ∀ w, sp_ab1 S w 22 0 = S 22 0
  | 0 => rfl
  | w + 1 => w0_if ((w0_un _ w).trans ((w0_mv _ w (by omega) (by omega) 32).trans ((w0_U (by omega)).trans (w0_ab1 S w)))) ((w0_U (by omega)).trans (w0_ab1 S w))
theorem zn_ab1 (S : zS) (w : Nat) : zn (sp_ab1 S w) 22 0 = zn S 22 0 := congrArg Int32.toNatClampNeg (w0_ab1 S w)
def sp_ab (S : zS) : zS := sp_sa2 (sp_ab1 S (zn S 22 0))
def sp_cr (S : zS) : Int32 := if sp_sa S (zn S 22 0) 22 3 = (-1) then nI 0 else sp_sa S (zn S 22 0) 22 3
def sp_mg (V W : Nat) : Nat → Nat
  | 0 => 0
  | g + 1 => if g * V / 8 = g * W / 8 then sp_mg V W g else sp_mg V W g + 1
/-- groups of a worker, counted down from the last -/
def zdn : Nat → Int32
  | 0 => -1
  | j + 1 => nI j
theorem zdn_lt : ∀ {j : Nat}, j ≤ 8 → zdn j < 0 → j = 0
  | 0, _, _ => rfl
  | j + 1, h, q => absurd q (nI_pos (show j < 2 ^ 31 by omega))
theorem zdn_nlt : ∀ {j : Nat}, ¬ zdn j < 0 → 1 ≤ j
  | 0, q => absurd (by decide) q
  | j + 1, _ => by omega
theorem zdn_p {j : Nat} (h : 1 ≤ j) : zdn j = nI (j - 1) := by
  cases j with
  | zero => exact absurd h (by omega)
  | succ j => rfl
theorem zdn_d {t : Nat} (h : t < 8) : nI (7 - t) + Int32.ofInt (-1) = zdn (8 - (t + 1)) := by
  by_cases q : t = 7
  · subst q; decide
  · rw [show 8 - (t + 1) = (6 - t) + 1 from by omega, show 7 - t = (6 - t) + 1 from by omega]
    exact pk_m1 _
def sp_gf (W w : Nat) : Nat → Nat
  | 0 => 8
  | t + 1 => if (7 - t) * W / 8 = w then 7 - t else sp_gf W w t
def sp_go (W w : Nat) : Nat → Nat
  | 0 => 0
  | t + 1 => if (7 - t) * W / 8 = w then sp_go W w t + 1 else sp_go W w t
def sp_op (S : zS) (w : Nat) : Nat → Int32
  | 0 => nI 0
  | k + 1 => if zown (zn S 22 0) k = w then sp_op S w k + S 11 k else sp_op S w k
def sp_cm (S : zS) : Nat → Int32
  | 0 => nI 0
  | k + 1 => sp_cm S k + S 19 k
def sp_rs (S : zS) (key : Nat) : Nat → Int32
  | 0 => nI 0
  | p + 1 => sp_rs S key p + sp_ek S key p (zn S 2 p)
