/-! rows, place by place -/
theorem zU_at (S : zS) (k : Nat) (f : Nat → Int32) (j i : Nat) : zU S k f j i = if j = k then f i else S j i := by
  unfold zU
  split <;> rfl
theorem up_at (f : Nat → Int32) (k : Nat) (x : Int32) (i : Nat) : upd f k x i = if i = k then x else f i := rfl
theorem z_at (f : Nat → Int32) (i : Nat) : ∀ k, sp_z f k i = if i < k then nI 0 else f i
  | 0 => by simp [sp_z]
  | k + 1 => by
    unfold sp_z
    rw [up_at, z_at f i k]
    grind
theorem m1_at (f : Nat → Int32) (i : Nat) : ∀ k, sp_m1 f k i = if i < k then (-1) else f i
  | 0 => by simp [sp_m1]
  | k + 1 => by
    unfold sp_m1
    rw [up_at, m1_at f i k]
    grind
theorem cp_at (f g : Nat → Int32) (i : Nat) : ∀ k, sp_cp f g k i = if i < k then g i else f i
  | 0 => by simp [sp_cp]
  | k + 1 => by
    unfold sp_cp
    rw [up_at, cp_at f g i k]
    grind
theorem unb_at (f : Nat → Int32) (w i : Nat) (hw : w < 4) : ∀ q, sp_unb f w q i = if i < 4 * q ∧ i % 4 = w then nI 0 else f i
  | 0 => by simp [sp_unb]
  | q + 1 => by
    unfold sp_unb
    rw [up_at, unb_at f w i hw q]
    grind
theorem sh_at (f : Nat → Int32) (b i : Nat) : ∀ j, sp_sh f b j i = if b ≤ i ∧ i < b + j then f (i + 1) else f i
  | 0 => by
    simp [sp_sh]
    omega
  | j + 1 => by
    unfold sp_sh
    rw [up_at, sh_at f b i j, sh_at f b _ j]
    grind
theorem tadd_at (S : zS) (c key : Nat) (a b : Int32) (j i : Nat) : sp_tadd S c key a b j i = if i = key ∧ j = c then S c i + a else if i = key ∧ j = c + 1 then S (c + 1) i + b else S j i := by
  unfold sp_tadd
  rw [zU_at, up_at, zU_at, up_at]
  grind
theorem tclk_at (S : zS) (c key : Nat) (j i : Nat) : sp_tclk S c key j i = if i = key ∧ (j = c ∨ j = c + 1) then nI 0 else S j i := by
  unfold sp_tclk
  rw [zU_at, up_at, zU_at, up_at]
  grind
theorem tck_at (S : zS) (c d key : Nat) (j i : Nat) : sp_tck S c d key j i = if i = key ∧ j = c then S d i else if i = key ∧ j = c + 1 then S (d + 1) i else S j i := by
  unfold sp_tck
  rw [zU_at, up_at, zU_at, up_at]
  grind
theorem tca_at (S : zS) (c d : Nat) (j i : Nat) : sp_tca S c d j i = if i < 32 ∧ j = c then S d i else if i < 32 ∧ j = c + 1 then S (d + 1) i else S j i := by
  unfold sp_tca
  rw [zU_at, cp_at, zU_at, cp_at]
  grind
theorem tz_at (S : zS) (c k : Nat) (j i : Nat) : sp_tz S c k j i = if i < k ∧ (j = c ∨ j = c + 1) then nI 0 else S j i := by
  unfold sp_tz
  rw [zU_at, z_at, zU_at, z_at]
  grind
theorem mv_at (S : zS) (a b w : Nat) (ha : a + 1 < b ∨ b + 1 < a) (ha2 : a ≤ 20) (hb : b ≤ 20) (j i : Nat) : ∀ k, sp_mv S a b w k j i = if i < k ∧ zown (zn S 22 0) i = w then (if j = b then S b i + S a i else if j = b + 1 then S (b + 1) i + S (a + 1) i else if j = a ∨ j = a + 1 then nI 0 else S j i) else S j i
  | 0 => by simp [sp_mv]
  | k + 1 => by
    have h0 : zn (sp_mv S a b w k) 22 0 = zn S 22 0 := congrArg Int32.toNatClampNeg (w0_mv S w ha2 hb k)
    unfold sp_mv
    rw [h0]
    split
    · rw [tclk_at, tadd_at, mv_at S a b w ha ha2 hb _ _ k, mv_at S a b w ha ha2 hb _ _ k, mv_at S a b w ha ha2 hb _ _ k, mv_at S a b w ha ha2 hb _ _ k, mv_at S a b w ha ha2 hb _ _ k]
      grind
    · rw [mv_at S a b w ha ha2 hb _ _ k]
      grind
theorem ck_at (S : zS) (w : Nat) (j i : Nat) : ∀ k, sp_ck S w k j i = if i < k ∧ zown (zn S 22 0) i = w then (if j = 15 then S 9 i else if j = 16 then S 10 i else S j i) else S j i
  | 0 => by simp [sp_ck]
  | k + 1 => by
    have h0 : zn (sp_ck S w k) 22 0 = zn S 22 0 := congrArg Int32.toNatClampNeg (w0_ck S w k)
    unfold sp_ck
    rw [h0]
    split
    · rw [tck_at, ck_at S w _ _ k, ck_at S w _ _ k, ck_at S w _ _ k]
      grind
    · rw [ck_at S w _ _ k]
      grind
theorem ak_at (S : zS) (w : Nat) (j i : Nat) : ∀ k, mo_ak S w k j i = if i < k ∧ zown (zn S 22 0) i = w then (if j = 15 then S 9 i else if j = 16 then S 10 i else if j = 13 then S 11 i else if j = 14 then S 12 i else if j = 11 ∨ j = 12 then nI 0 else S j i) else S j i
  | 0 => by simp [mo_ak]
  | k + 1 => by
    have h0 : zn (mo_ak S w k) 22 0 = zn S 22 0 := congrArg Int32.toNatClampNeg (w0_ak S w k)
    unfold mo_ak
    rw [h0]
    split
    · simp only [zU_at, up_at, ak_at S w _ _ k]
      grind
    · rw [ak_at S w _ _ k]
      grind
theorem com1_at (S : zS) (w : Nat) (j i : Nat) : ∀ k, mo_com1 S w k j i = if i < k ∧ zown (zn S 22 0) i = w then (if j = 19 then S 19 i + S 13 i else if j = 20 then S 20 i + S 14 i else S j i) else S j i
  | 0 => by simp [mo_com1]
  | k + 1 => by
    have h0 : zn (mo_com1 S w k) 22 0 = zn S 22 0 := congrArg Int32.toNatClampNeg (w0_com1 S w k)
    unfold mo_com1
    rw [h0]
    split
    · simp only [zU_at, up_at, com1_at S w _ _ k]
      grind
    · rw [com1_at S w _ _ k]
      grind
theorem ab1_at (S : zS) (j i : Nat) : ∀ k, mo_ab1 S k j i = if i < k ∧ S 21 (zown (zn S 22 0) i) = S 22 2 then (if j = 11 then S 11 i + S 13 i else if j = 12 then S 12 i + S 14 i else S j i) else S j i
  | 0 => by simp [mo_ab1]
  | k + 1 => by
    have h0 : zn (mo_ab1 S k) 22 0 = zn S 22 0 := congrArg Int32.toNatClampNeg (w0_mab1 S k)
    have h1 : mo_ab1 S k 21 (zown (zn S 22 0) k) = S 21 (zown (zn S 22 0) k) := by
      rw [ab1_at S _ _ k]
      grind
    have h2 : mo_ab1 S k 22 2 = S 22 2 := by
      rw [ab1_at S _ _ k]
      grind
    unfold mo_ab1
    rw [h0, h1, h2]
    split
    · simp only [zU_at, up_at, ab1_at S _ _ k]
      grind
    · rw [ab1_at S _ _ k]
      grind
