/-! what ties the class's state S to the model's M, behind k calls -/
/-- the rows that both hold alike, and the others' ties -/
def zRel (S M : zS) : Prop := (∀ j, j ≠ 4 → j ≠ 13 → j ≠ 14 → j ≠ 22 → M j = S j) ∧ (∀ i, i < 4 → M 22 i = S 22 i) ∧ (¬ S 22 2 = (-1) → ∀ p, p < 4 → M 4 p = S 4 p) ∧ ∀ key, key < 32 → (¬ S 21 (zown (zn S 22 0) key) = (-1) → M 13 key = S 13 key ∧ M 14 key = S 14 key) ∧ (S 21 (zown (zn S 22 0) key) = (-1) → S 13 key = nI 0 ∧ S 14 key = nI 0)
/-- no barrier of the checkpoint u stands in the channel c -/
def zno (S : zS) (c : Nat) : Prop := ∀ i, i < zn S 7 c → ¬ S 6 (8 * c + i) = -(S 22 2)
/-- numbers of checkpoints, blocked channels, barriers under way -/
def zDeep (B : Nat) (S : zS) : Prop :=
  (S 22 1 = nI (zn S 22 1) ∧ zn S 22 1 ≤ B) ∧
  (S 22 2 = (-1) ∨ (S 22 2 = S 22 1 ∧ 1 ≤ zn S 22 1)) ∧
  (S 22 3 = (-1) ∨ ∃ c, 1 ≤ c ∧ c ≤ zn S 22 1 ∧ S 22 3 = nI c) ∧
  (¬ S 22 2 = (-1) → ¬ S 22 3 = S 22 2) ∧
  (∀ w, w < 4 → S 21 w = (-1) ∨ (w < zn S 22 0 ∧ (¬ S 22 2 = (-1) → S 21 w = S 22 2) ∧ (S 22 2 = (-1) → S 21 w = S 22 3))) ∧
  (∀ j, 4 ≤ j → S 21 j = nI 0) ∧
  (S 22 2 = (-1) → ∀ c, S 8 c = nI 0) ∧
  (∀ c, S 8 c = nI 1 → c < 16 ∧ c % 4 < zn S 22 0 ∧ S 21 (c % 4) = (-1) ∧ S 4 (c / 4) = nI 1) ∧
  (¬ S 22 2 = (-1) → (∀ c, c < 16 → (∀ i j, i < zn S 7 c → j < zn S 7 c → S 6 (8 * c + i) = -(S 22 2) → S 6 (8 * c + j) = -(S 22 2) → i = j) ∧ (S 4 (c / 4) = nI 0 → zno S c) ∧ (S 8 c = nI 1 → zno S c) ∧ (¬ S 21 (c % 4) = (-1) → zno S c ∧ S 4 (c / 4) = nI 1))) ∧
  (∀ i, -(zn S 22 1 : Int) ≤ (S 6 i).toInt)
def IV (k : Nat) (S M : zS) : Prop := zOK S ∧ zOK M ∧ zRel S M ∧ zDeep k S
theorem IV.ok1 {k : Nat} {S M : zS} (I : IV k S M) : zOK S := I.1
theorem IV.ok2 {k : Nat} {S M : zS} (I : IV k S M) : zOK M := I.2.1
theorem IV.sh {k : Nat} {S M : zS} (I : IV k S M) (j : Nat) (h : j ≠ 4 ∧ j ≠ 13 ∧ j ≠ 14 ∧ j ≠ 22) : M j = S j := I.2.2.1.1 j h.1 h.2.1 h.2.2.1 h.2.2.2
theorem IV.s22 {k : Nat} {S M : zS} (I : IV k S M) (i : Nat) (h : i < 4) : M 22 i = S 22 i := I.2.2.1.2.1 i h
theorem IV.W {k : Nat} {S M : zS} (I : IV k S M) : zn M 22 0 = zn S 22 0 := congrArg Int32.toNatClampNeg (I.s22 0 (by decide))
theorem IV.zn {k : Nat} {S M : zS} (I : IV k S M) (j i : Nat) (h : j ≠ 4 ∧ j ≠ 13 ∧ j ≠ 14 ∧ j ≠ 22) : zn M j i = zn S j i := congrArg Int32.toNatClampNeg (congrFun (I.sh j h) i)
theorem IV.rw_ {k : Nat} {S M : zS} (I : IV k S M) (p : Nat) : zrw M p = zrw S p := by
  unfold zrw zev
  rw [I.W, I.zn 1 _ (by decide), I.zn 2 _ (by decide)]
theorem IV.canR {k : Nat} {S M : zS} (I : IV k S M) (p : Nat) : zcanR M p ↔ zcanR S p := by
  unfold zcanR
  rw [I.rw_ p, I.zn 2 _ (by decide), I.zn 0 _ (by decide), I.zn 7 _ (by decide)]
theorem IV.canT {k : Nat} {S M : zS} (I : IV k S M) (p w : Nat) : zcanT M p w ↔ zcanT S p w := by
  unfold zcanT
  rw [I.zn 7 _ (by decide), I.sh 8 (by decide)]
theorem zDeep_mono {k k1 : Nat} {S : zS} (h : k ≤ k1) (D : zDeep k S) : zDeep k1 S := ⟨⟨D.1.1, Nat.le_trans D.1.2 h⟩, D.2⟩
theorem zRel_th {S M : zS} {c : Nat} (h : zRel S M) : zRel S (zth M c) := by
  obtain ⟨h1, h2, h3, h4⟩ := h
  refine ⟨fun j a b c d => (zU_n d).trans (h1 j a b c d), fun i hi => ?_, h3, h4⟩
  show upd (M 22) 4 (nI c) i = S 22 i
  rw [pk_un (by omega)]
  exact h2 i hi
theorem iv_q {k : Nat} {S M : zS} (I : IV k S M) (c : Nat) : IV (k + 1) S (zth M c) := ⟨I.1, zOK_th I.2.1, zRel_th I.2.2.1, zDeep_mono (Nat.le_succ k) I.2.2.2⟩
theorem iv_0 {k : Nat} {S M : zS} (I : IV k S M) (c : Nat) : IV k S (zth M c) := ⟨I.1, zOK_th I.2.1, zRel_th I.2.2.1, I.2.2.2⟩
