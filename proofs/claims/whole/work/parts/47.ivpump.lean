/-! read, send, take, pump keep the tie -/
theorem zDeep_put {k : Nat} {S T : zS} {c0 : Nat} {x : Int32} (hO : zOK S) (D : zDeep k S) (h22 : T 22 = S 22) (h21 : T 21 = S 21) (h8 : T 8 = S 8) (h4 : T 4 = S 4) (h6 : ∀ i, T 6 i = if i = 8 * c0 + zn S 7 c0 then x else S 6 i) (h7 : ∀ i, T 7 i = if i = c0 then nI (zn S 7 c0 + 1) else S 7 i) (hn : zn S 7 c0 < 8) (hx : 0 ≤ x.toInt) : zDeep k T := by
  obtain ⟨d1, d2, d3, d4, d5, d6, d7, d8, d9, d10⟩ := D
  have z0 : zn T 22 0 = zn S 22 0 := by unfold zn; rw [h22]
  have z1 : zn T 22 1 = zn S 22 1 := by unfold zn; rw [h22]
  have z7 : ∀ c, zn T 7 c = if c = c0 then zn S 7 c0 + 1 else zn S 7 c := fun c => by
    show (T 7 c).toNatClampNeg = _
    rw [h7]
    split
    · exact nI_cl (by omega)
    · rfl
  have hu : ¬ S 22 2 = (-1) → ¬ x = -(S 22 2) := by
    intro h e
    rcases d2 with h2 | ⟨h2, h3⟩
    · exact h h2
    · have h5 : zn S 22 1 < 2 ^ 31 := by
        unfold zn Int32.toNatClampNeg
        have := (S 22 1).toInt_lt
        omega
      rw [e, h2, d1.1, Int32.toInt_neg, nI_toInt h5, Int.bmod_eq_of_le (by omega) (by omega)] at hx
      omega
  have key : ∀ c i, ¬ S 22 2 = (-1) → i < zn T 7 c → T 6 (8 * c + i) = -(S 22 2) → i < zn S 7 c ∧ S 6 (8 * c + i) = -(S 22 2) := by
    intro c i hs hi hz
    have h7c := (hO.n7 c).2
    rw [z7] at hi
    rw [h6] at hz
    split at hz
    · exact absurd hz (hu hs)
    · refine ⟨?_, hz⟩
      split at hi
      · subst_vars; omega
      · exact hi
  have kno : ∀ c, ¬ S 22 2 = (-1) → zno S c → zno T c := fun c hs h i hi hz => by
    rw [h22] at hz
    have := key c i hs hi hz
    exact h i this.1 this.2
  refine ⟨?_, ?_, ?_, ?_, ?_, ?_, ?_, ?_, ?_, ?_⟩
  · rw [z1, h22]; exact d1
  · rw [z1, h22]; exact d2
  · rw [z1, h22]; exact d3
  · rw [h22]; exact d4
  · rw [z0, h22, h21]; exact d5
  · rw [h21]; exact d6
  · rw [h22, h8]; exact d7
  · rw [h8, z0, h21, h4]; exact d8
  · rw [h22, h4, h8, h21]
    intro hs c hc
    obtain ⟨a1, a2, a3, a4⟩ := d9 hs c hc
    refine ⟨fun i j hi hj hz hz2 => ?_, fun h => kno c hs (a2 h), fun h => kno c hs (a3 h), fun h => ⟨kno c hs (a4 h).1, (a4 h).2⟩⟩
    have b1 := key c i hs hi hz
    have b2 := key c j hs hj hz2
    exact a1 i j b1.1 b2.1 b1.2 b2.2
  · intro i
    rw [z1, h6]
    split
    · omega
    · exact d10 i
theorem iv_read {k : Nat} {S M : zS} (I : IV k S M) {p : Nat} (hp : p < 4) (hc : zcanR S p) : IV k (sp_read S p) (sp_read M p) := by
  have er := I.rw_ p
  have ev : zev M p = zev S p := by
    unfold zev
    rw [I.zn 1 _ (by decide), I.zn 2 _ (by decide)]
  have e2 := I.zn 2 p (by decide)
  have e7 := I.zn 7 (4 * p + zrw S p) (by decide)
  have ev1 := (I.1.n1 (60 * p + zn S 2 p)).2
  refine ⟨zOK_read I.1 hc, zOK_read I.2.1 ((I.canR p).mpr hc), ?_, zDeep_put (c0 := 4 * p + zrw S p) (x := nI (zev S p)) I.1 I.2.2.2 ?_ ?_ ?_ ?_ (fun i => ?_) (fun i => ?_) hc.2 ?_⟩
  · refine zRel_congr I.2.2.1 (fun j j1 j2 j3 j4 h5 => ?_) ⟨?_, ?_⟩ ⟨?_, ?_⟩ ⟨?_, ?_⟩ ⟨?_, ?_⟩ ?_
    · funext i
      rw [read_at, read_at, put_at, put_at, er, ev, e2, e7, h5]
    all_goals (funext i; rw [read_at, put_at]; grind)
  · funext i; rw [read_at, put_at]; grind
  · funext i; rw [read_at, put_at]; grind
  · funext i; rw [read_at, put_at]; grind
  · funext i; rw [read_at, put_at]; grind
  · rw [read_at, put_at]; grind
  · rw [read_at, put_at]; grind
  · rw [nI_toInt (by omega)]; omega
theorem iv_send {k : Nat} {S M : zS} (I : IV k S M) {p : Nat} (hp : p < 4) (hc1 : ¬ S 22 2 = (-1)) (hc2 : S 4 p = nI 0) (hc : ∀ w, w < zn S 22 0 → zn S 7 (4 * p + w) < 8) : IV k (sp_send S p) (mo_send M p) ∧ zn (sp_sb S p (zn S 22 0)) 2 p = zn (mo_send M p) 2 p := sorry
theorem iv_take {k : Nat} {S M : zS} (I : IV k S M) {p w : Nat} (hp : p < 4) (hw : w < zn S 22 0) (hc : zcanT S p w) : IV k (sp_tf S p w) (mo_tf M p w) ∧ sp_tfr S p w = mo_tfr M p w := sorry
theorem iv_pump {k : Nat} {S M : zS} (I : IV k S M) (t : Nat) : IV k (sp_pm S t) (mo_ps M (t * 4 * (zn M 22 0 + 1))) ∧ sp_pmc S t = mo_psc M (t * 4 * (zn M 22 0 + 1)) := sorry
