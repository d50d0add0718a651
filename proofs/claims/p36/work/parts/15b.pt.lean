section ZPT
set_option maxHeartbeats 4000000
/-! each word, place by place -/
theorem blk_at (S : zS) (p w j i : Nat) : sp_blk S p w j i = if j = 8 ∧ i = 4 * p + w then nI 1 else S j i := by
  unfold sp_blk
  rw [zU_at, up_at]
  grind (splits := 60)
theorem put_at (S : zS) (c : Nat) (x : Int32) (j i : Nat) : sp_put S c x j i = if j = 7 ∧ i = c then nI (zn S 7 c + 1) else if j = 6 ∧ i = 8 * c + zn S 7 c then x else S j i := by
  unfold sp_put
  simp only [zU_at, up_at]
  grind (splits := 60)
theorem rem_at (S : zS) (c j i : Nat) : sp_rem S c j i = if j = 7 ∧ i = c then nI (zn S 7 c - 1) else if j = 6 ∧ 8 * c ≤ i ∧ i < 8 * c + (zn S 7 c - 1) then S 6 (i + 1) else S j i := by
  unfold sp_rem
  simp only [zU_at, up_at, sh_at]
  grind (splits := 60)
theorem te_at (S : zS) (key v j i : Nat) : sp_te S key v j i = if i = key ∧ (j = 9 ∨ j = 11) then S j i + nI 1 else if i = key ∧ (j = 10 ∨ j = 12) then S j i + nI v else S j i := by
  unfold sp_te
  simp only [tadd_at]
  grind (splits := 60)
theorem un_at (S : zS) (w j i : Nat) : sp_un S w j i = if j = 21 ∧ i = w then (-1) else S j i := by
  unfold sp_un
  simp only [zU_at, up_at]
  grind (splits := 60)
theorem keep_at (S : zS) (p j i : Nat) : sp_keep S p j i = if j = 4 ∧ i = p then nI 1 else if j = 5 ∧ i = p then nI (zn S 2 p) else S j i := by
  unfold sp_keep
  simp only [zU_at, up_at]
  grind (splits := 60)
theorem read_at (S : zS) (p j i : Nat) : sp_read S p j i = if j = 2 ∧ i = p then nI (zn S 2 p + 1) else sp_put S (4 * p + zrw S p) (nI (zev S p)) j i := by
  unfold sp_read
  simp only [zU_at, up_at]
  split
  · split
    · simp_all
    · rename_i h1 h2
      rw [if_neg (fun q => h2 q.2), put_at]
      grind (splits := 60)
  · rw [if_neg (by grind)]
theorem w0_at {S T : zS} (h : T 22 0 = S 22 0) : zn T 22 0 = zn S 22 0 := congrArg Int32.toNatClampNeg h
theorem com_at (S : zS) (w j i : Nat) : sp_com S w j i = if j = 21 ∧ i = w then (-1) else if i < 32 ∧ zown (zn S 22 0) i = w then (if j = 19 then S 19 i + S 13 i else if j = 20 then S 20 i + S 14 i else if j = 13 ∨ j = 14 then nI 0 else S j i) else S j i := by
  unfold sp_com
  rw [mv_at _ _ _ _ (by omega) (by omega) (by omega), w0_at (w0_un S w)]
  simp only [un_at]
  grind (splits := 60)
theorem mcom_at (S : zS) (w j i : Nat) : mo_com S w j i = if j = 21 ∧ i = w then (-1) else if i < 32 ∧ zown (zn S 22 0) i = w then (if j = 19 then S 19 i + S 13 i else if j = 20 then S 20 i + S 14 i else S j i) else S j i := by
  unfold mo_com
  simp only [un_at, com1_at]
theorem cc_at (S : zS) (j i : Nat) : sp_cc S j i = if j = 17 ∧ i < 32 then S 15 i else if j = 18 ∧ i < 32 then S 16 i else if j = 3 ∧ i < 4 then S 5 i else if j = 22 ∧ i = 3 then S 22 2 else if j = 22 ∧ i = 2 then (-1) else S j i := by
  unfold sp_cc
  simp only [zU_at, up_at, cp_at, tca_at]
  grind (splits := 60)
theorem mcc_at (S : zS) (j i : Nat) : mo_cc S j i = if j = 17 ∧ i < 32 then S 15 i else if j = 18 ∧ i < 32 then S 16 i else if j = 3 ∧ i < 4 then S 5 i else if j = 22 ∧ i = 3 then S 22 2 else if j = 22 ∧ i = 2 then (-1) else S j i := by
  unfold mo_cc
  simp only [zU_at, up_at, cp_at]
  grind (splits := 60)
theorem seal1_at (S : zS) (w : Nat) (hw : w < 4) (j i : Nat) : sp_seal1 S w j i = if j = 8 ∧ i < 16 ∧ i % 4 = w then nI 0 else if j = 21 ∧ i = w then S 22 2 else if i < 32 ∧ zown (zn S 22 0) i = w then (if j = 15 then S 9 i else if j = 16 then S 10 i else if j = 13 then S 13 i + S 11 i else if j = 14 then S 14 i + S 12 i else if j = 11 ∨ j = 12 then nI 0 else S j i) else S j i := by
  unfold sp_seal1 sp_seal0
  simp only [zU_at, up_at, unb_at _ _ _ hw, mv_at _ _ _ _ (show 11 + 1 < 13 ∨ 13 + 1 < 11 by omega) (show 11 ≤ 20 by omega) (show 13 ≤ 20 by omega), w0_at (w0_ck S w 32), ck_at]
  grind (splits := 60)
theorem al1_at (S : zS) (w : Nat) (hw : w < 4) (j i : Nat) : mo_al1 S w j i = if j = 8 ∧ i < 16 ∧ i % 4 = w then nI 0 else if j = 21 ∧ i = w then S 22 2 else if i < 32 ∧ zown (zn S 22 0) i = w then (if j = 15 then S 9 i else if j = 16 then S 10 i else if j = 13 then S 11 i else if j = 14 then S 12 i else if j = 11 ∨ j = 12 then nI 0 else S j i) else S j i := by
  have h0 : ∀ f, zn (zU S 8 f) 22 0 = zn S 22 0 := fun _ => rfl
  unfold mo_al1
  simp only [zU_at, up_at, ak_at, unb_at _ _ _ hw, h0]
  grind (splits := 60)
theorem lift_at (S : zS) (j i : Nat) : mo_lift S j i = if (j = 8 ∧ i < 16) ∨ (j = 4 ∧ i < 4) then nI 0 else S j i := by
  unfold mo_lift
  simp only [zU_at, z_at]
  grind (splits := 60)
theorem uns_at (S : zS) (j i : Nat) : mo_uns S j i = if j = 21 ∧ i < 4 then (-1) else S j i := by
  unfold mo_uns
  simp only [zU_at, m1_at]
  grind (splits := 60)
theorem sa2_at (S : zS) (j i : Nat) : sp_sa2 S j i = if j = 22 ∧ i = 2 then (-1) else S j i := by
  unfold sp_sa2
  simp only [zU_at, up_at]
  grind (splits := 60)
theorem sab1_at (S : zS) (j i : Nat) : ∀ k, k ≤ 4 → sp_ab1 S k j i = if j = 8 ∧ i < 16 ∧ i % 4 < k then nI 0 else if j = 21 ∧ i < k ∧ S 21 i = S 22 2 then (-1) else if i < 32 ∧ zown (zn S 22 0) i < k ∧ S 21 (zown (zn S 22 0) i) = S 22 2 then (if j = 11 then S 11 i + S 13 i else if j = 12 then S 12 i + S 14 i else if j = 13 ∨ j = 14 then nI 0 else S j i) else S j i
  | 0, _ => by simp [sp_ab1]
  | k + 1, hk => by
    have h0 := w0_at (w0_ab1 S k)
    have h1 : ∀ f, zn (zU (sp_ab1 S k) 8 f) 22 0 = zn S 22 0 := fun _ => h0
    have ih := fun j i => sab1_at S j i k (by omega)
    have h2 : zU (sp_ab1 S k) 8 (sp_unb (sp_ab1 S k 8) k 4) 21 k = S 21 k := by
      rw [zU_at, ih]
      grind (splits := 60)
    unfold sp_ab1
    rw [h2]
    split
    · simp only [un_at, mv_at _ _ _ _ (show 13 + 1 < 11 ∨ 11 + 1 < 13 by omega) (show 13 ≤ 20 by omega) (show 11 ≤ 20 by omega), h1, zU_at, unb_at _ _ _ (show k < 4 by omega), ih]
      grind (splits := 60)
    · simp only [zU_at, unb_at _ _ _ (show k < 4 by omega), ih]
      grind (splits := 60)
theorem ssa1_at (S : zS) (j i : Nat) : ∀ k, k ≤ 4 → sp_sa1 S k j i = if j = 21 ∧ i < k then (-1) else if i < 32 ∧ zown (zn S 22 0) i < k ∧ zrdy S (zown (zn S 22 0) i) then (if j = 19 then S 19 i + S 13 i else if j = 20 then S 20 i + S 14 i else if j = 13 ∨ j = 14 then nI 0 else S j i) else S j i
  | 0, _ => by simp [sp_sa1]
  | k + 1, hk => by
    have h0 := w0_at (w0_sa1 S k)
    have ih := fun j i => ssa1_at S j i k (by omega)
    have h2 : zrdy (sp_sa1 S k) k ↔ zrdy S k := by
      unfold zrdy
      rw [ih, ih]
      grind (splits := 60)
    unfold sp_sa1
    rw [un_at]
    by_cases hr : zrdy S k
    · rw [if_pos (h2.mpr hr)]
      simp only [com_at, h0, ih]
      grind (splits := 60)
    · rw [if_neg (fun z => hr (h2.mp z))]
      simp only [ih]
      grind (splits := 60)
theorem msa1_at (S : zS) (j i : Nat) : ∀ k, k ≤ 4 → mo_sa1 S k j i = if j = 21 ∧ i < k ∧ zmay S i then (-1) else if i < 32 ∧ zown (zn S 22 0) i < k ∧ zmay S (zown (zn S 22 0) i) then (if j = 19 then S 19 i + S 13 i else if j = 20 then S 20 i + S 14 i else S j i) else S j i
  | 0, _ => by simp [mo_sa1]
  | k + 1, hk => by
    have h0 := w0_at (w0_msa1 S k)
    have ih := fun j i => msa1_at S j i k (by omega)
    have h2 : zmay (mo_sa1 S k) k ↔ zmay S k := by
      unfold zmay
      rw [ih, ih]
      grind (splits := 60)
    unfold mo_sa1
    by_cases hr : zmay S k
    · rw [if_pos (h2.mpr hr)]
      simp only [mcom_at, h0, ih]
      grind (splits := 60)
    · rw [if_neg (fun z => hr (h2.mp z))]
      simp only [ih]
      grind (splits := 60)
end ZPT
