/-! read, send, take, pump keep the tie -/
theorem zDeep_put {k : Nat} {S T : zS} {c0 : Nat} {x : Int32} (hO : zOK S) (D : zDeep k S) (h22 : T 22 = S 22) (h21 : T 21 = S 21) (h8 : T 8 = S 8) (h4 : T 4 = S 4) (h6 : ∀ i, T 6 i = if i = 8 * c0 + zn S 7 c0 then x else S 6 i) (h7 : ∀ i, T 7 i = if i = c0 then nI (zn S 7 c0 + 1) else S 7 i) (hn : zn S 7 c0 < 8) (hx : 0 ≤ x.toInt) : zDeep k T := by
  obtain ⟨d1, d2, d3, d4, d5, d6, d7, d8, d9, d10⟩ := D
  have z0 : zn T 22 0 = zn S 22 0 := by unfold zn; rw [h22]
  have z1 : zn T 22 1 = zn S 22 1 := by unfold zn; rw [h22]
  have z7 : ∀ c, zn T 7 c = if c = c0 then zn S 7 c0 + 1 else zn S 7 c := fun c => by
    show (T 7 c).toNatClampNeg = _
    rw [h7]
    split
    · exact nI_cl (by omega)
    · rfl
  have hu : ¬ S 22 2 = (-1) → ¬ x = -(S 22 2) := by
    intro h e
    rcases d2 with h2 | ⟨h2, h3⟩
    · exact h h2
    · have h5 : zn S 22 1 < 2 ^ 31 := by
        unfold zn Int32.toNatClampNeg
        have := (S 22 1).toInt_lt
        omega
      rw [e, h2, d1.1, Int32.toInt_neg, nI_toInt h5, Int.bmod_eq_of_le (by omega) (by omega)] at hx
      omega
  have key : ∀ c i, ¬ S 22 2 = (-1) → i < zn T 7 c → T 6 (8 * c + i) = -(S 22 2) → i < zn S 7 c ∧ S 6 (8 * c + i) = -(S 22 2) := by
    intro c i hs hi hz
    have h7c := (hO.n7 c).2
    rw [z7] at hi
    rw [h6] at hz
    split at hz
    · exact absurd hz (hu hs)
    · refine ⟨?_, hz⟩
      split at hi
      · subst_vars; omega
      · exact hi
  have kno : ∀ c, ¬ S 22 2 = (-1) → zno S c → zno T c := fun c hs h i hi hz => by
    rw [h22] at hz
    have := key c i hs hi hz
    exact h i this.1 this.2
  refine ⟨?_, ?_, ?_, ?_, ?_, ?_, ?_, ?_, ?_, ?_⟩
  · rw [z1, h22]; exact d1
  · rw [z1, h22]; exact d2
  · rw [z1, h22]; exact d3
  · rw [h22]; exact d4
  · rw [z0, h22, h21]; exact d5
  · rw [h21]; exact d6
  · rw [h22, h8]; exact d7
  · rw [h8, z0, h21, h4]; exact d8
  · rw [h22, h4, h8, h21]
    intro hs c hc
    obtain ⟨a1, a2, a3, a4⟩ := d9 hs c hc
    refine ⟨fun i j hi hj hz hz2 => ?_, fun h => kno c hs (a2 h), fun h => kno c hs (a3 h), fun h => ⟨kno c hs (a4 h).1, (a4 h).2⟩⟩
    have b1 := key c i hs hi hz
    have b2 := key c j hs hj hz2
    exact a1 i j b1.1 b2.1 b1.2 b2.2
  · intro i
    rw [z1, h6]
    split
    · omega
    · exact d10 i
theorem iv_read {k : Nat} {S M : zS} (I : IV k S M) {p : Nat} (hp : p < 4) (hc : zcanR S p) : IV k (sp_read S p) (sp_read M p) := by
  have er := I.rw_ p
  have ev : zev M p = zev S p := by
    unfold zev
    rw [I.zn 1 _ (by decide), I.zn 2 _ (by decide)]
  have e2 := I.zn 2 p (by decide)
  have e7 := I.zn 7 (4 * p + zrw S p) (by decide)
  have ev1 : zev S p ≤ 31100 := (I.1.n1 (60 * p + zn S 2 p)).2
  refine ⟨zOK_read I.1 hc, zOK_read I.2.1 ((I.canR p).mpr hc), ?_, zDeep_put (c0 := 4 * p + zrw S p) (x := nI (zev S p)) I.1 I.2.2.2 ?_ ?_ ?_ ?_ (fun i => ?_) (fun i => ?_) hc.2 ?_⟩
  · refine zRel_congr I.2.2.1 (fun j j1 j2 j3 j4 h5 => ?_) ⟨?_, ?_⟩ ⟨?_, ?_⟩ ⟨?_, ?_⟩ ⟨?_, ?_⟩ ?_
    · funext i
      rw [read_at, read_at, put_at, put_at, er, ev, e2, e7, h5]
    all_goals (funext i; rw [read_at, put_at]; grind)
  · funext i; rw [read_at, put_at]; grind
  · funext i; rw [read_at, put_at]; grind
  · funext i; rw [read_at, put_at]; grind
  · funext i; rw [read_at, put_at]; grind
  · rw [read_at, put_at]; grind
  · rw [read_at, put_at]; grind
  · rw [nI_toInt (by omega)]; omega
theorem sbr_at (S : zS) (p : Nat) (j i : Nat) : ∀ k, (∀ w, w < k → zn S 7 (4 * p + w) < 8) → sp_sb S p k j i = if j = 7 ∧ 4 * p ≤ i ∧ i < 4 * p + k then nI (zn S 7 i + 1) else if j = 6 ∧ 4 * p ≤ i / 8 ∧ i / 8 < 4 * p + k ∧ i % 8 = zn S 7 (i / 8) then -(S 22 2) else S j i
  | 0, _ => by
    show S j i = _
    rw [if_neg (by omega), if_neg (by omega)]
  | k + 1, h => by
    have e7 := zn_sb7 S p k (4 * p + k) (Nat.le_refl _)
    have ih := sbr_at S p j i k (fun w hw => h w (by omega))
    have hk := h k (by omega)
    unfold sp_sb
    rw [put_at, e7, w2_sb, ih]
    clear ih
    by_cases h7 : j = 7
    · subst h7
      by_cases hi : i = 4 * p + k
      · subst hi
        rw [if_pos ⟨rfl, rfl⟩, if_pos ⟨rfl, by omega, by omega⟩]
      · grind
    · by_cases h6 : j = 6
      · subst h6
        have hd : i = 8 * (4 * p + k) + zn S 7 (4 * p + k) ↔ i / 8 = 4 * p + k ∧ i % 8 = zn S 7 (4 * p + k) := by omega
        by_cases hi : i / 8 = 4 * p + k
        · rw [hi]
          grind
        · grind
      · grind
theorem iv_send {k : Nat} {S M : zS} (I : IV k S M) {p : Nat} (hp : p < 4) (hc1 : ¬ S 22 2 = (-1)) (hc2 : S 4 p = nI 0) (hc : ∀ w, w < zn S 22 0 → zn S 7 (4 * p + w) < 8) : IV k (sp_send S p) (mo_send M p) ∧ zn (sp_sb S p (zn S 22 0)) 2 p = zn (mo_send M p) 2 p := by
  have hO := I.1
  have hW := (zOK.w hO).2
  have hn := iv_neg I hc1
  have eW := I.W
  have hs2 := I.s22 2 (by decide)
  have e7 := fun i => I.zn 7 i (by decide)
  have e2 := I.zn 2 p (by decide)
  obtain ⟨ra, rb, rc, rd⟩ := I.2.2.1
  obtain ⟨d1, d2, d3, d4, d5, d6, d7, d8, d9, d10⟩ := I.2.2.2
  have eS : ∀ j i, sp_send S p j i = if j = 4 ∧ i = p then nI 1 else if j = 5 ∧ i = p then nI (zn S 2 p) else sp_sb S p (zn S 22 0) j i := fun j i => by
    unfold sp_send
    rw [keep_at]
    have : zn (sp_sb S p (zn S 22 0)) 2 p = zn S 2 p := by
      show (sp_sb S p (zn S 22 0) 2 p).toNatClampNeg = _
      rw [sbr_at _ _ _ _ _ hc, if_neg (by omega), if_neg (by omega)]
      rfl
    rw [this]
  have eS2 := fun j i => sbr_at S p j i (zn S 22 0) hc
  have hk7 : ∀ i, zn (sp_keep M p) 7 i = zn S 7 i := fun i => by
    rw [← e7]
    show (sp_keep M p 7 i).toNatClampNeg = (M 7 i).toNatClampNeg
    rw [keep_at, if_neg (by omega), if_neg (by omega)]
  have eM : ∀ j i, mo_send M p j i = if j = 7 ∧ 4 * p ≤ i ∧ i < 4 * p + zn S 22 0 then nI (zn S 7 i + 1) else if j = 6 ∧ 4 * p ≤ i / 8 ∧ i / 8 < 4 * p + zn S 22 0 ∧ i % 8 = zn S 7 (i / 8) then -(S 22 2) else if j = 4 ∧ i = p then nI 1 else if j = 5 ∧ i = p then nI (zn S 2 p) else M j i := fun j i => by
    unfold mo_send
    rw [eW, sbr_at _ _ _ _ _ (fun w hw => by rw [hk7]; exact hc w hw), hk7, hk7, keep_at, keep_at, e2, hs2, if_neg (show ¬ (22 = 4 ∧ 2 = p) by omega), if_neg (show ¬ (22 = 5 ∧ 2 = p) by omega)]
  have g22 : sp_send S p 22 = S 22 := by funext i; rw [eS, eS2]; grind
  have g21 : sp_send S p 21 = S 21 := by funext i; rw [eS, eS2]; grind
  have g8 : sp_send S p 8 = S 8 := by funext i; rw [eS, eS2]; grind
  have z0 : zn (sp_send S p) 22 0 = zn S 22 0 := by unfold zn; rw [g22]
  have z1 : zn (sp_send S p) 22 1 = zn S 22 1 := by unfold zn; rw [g22]
  have g4 : ∀ q, sp_send S p 4 q = if q = p then nI 1 else S 4 q := fun q => by rw [eS, eS2]; grind
  have g6 : ∀ i, sp_send S p 6 i = if 4 * p ≤ i / 8 ∧ i / 8 < 4 * p + zn S 22 0 ∧ i % 8 = zn S 7 (i / 8) then -(S 22 2) else S 6 i := fun i => by rw [eS, eS2]; grind
  have z7 : ∀ i, zn (sp_send S p) 7 i = if 4 * p ≤ i ∧ i < 4 * p + zn S 22 0 then zn S 7 i + 1 else zn S 7 i := fun i => by
    have h7 := (hO.n7 i).2
    show (sp_send S p 7 i).toNatClampNeg = _
    rw [eS, eS2, if_neg (by omega), if_neg (by omega)]
    by_cases h : 4 * p ≤ i ∧ i < 4 * p + zn S 22 0
    · rw [if_pos ⟨rfl, h⟩, if_pos h, nI_cl (by omega)]
    · rw [if_neg (fun z => h z.2), if_neg (by omega), if_neg h]
      rfl
  refine ⟨⟨?_, ?_, ⟨fun j j1 j2 j3 j4 => ?_, fun i hi => ?_, fun _ q hq => ?_, fun key hk => ?_⟩, ⟨?_, ?_, ?_, ?_, ?_, ?_, ?_, fun c h => ?_, fun hu c h => ?_, fun i => ?_⟩⟩, ?_⟩
  · exact zOK_keep (zOK_sb hO hn hc _ (Nat.le_refl _))
  · have hkM := zOK_keep (p := p) I.2.1
    refine zOK_sb hkM ?_ (W := zn M 22 0) (fun w hw => by rw [hk7]; exact hc w (by omega)) _ (Nat.le_refl _)
    rw [keep_at, if_neg (by omega), if_neg (by omega), hs2]
    exact hn
  · funext i
    have e := congrFun (ra j j1 j2 j3 j4) i
    rw [eM, eS, eS2]
    clear ra rb rc rd d1 d2 d3 d4 d5 d6 d7 d8 d9 d10 I eS eS2 eM g22 g21 g8 g4 g6 z7 z0 z1 hk7 e7
    grind
  · have e := rb i hi
    rw [g22, eM]
    clear ra rb rc rd d1 d2 d3 d4 d5 d6 d7 d8 d9 d10 I eS eS2 eM g22 g21 g8 g4 g6 z7 z0 z1 hk7 e7
    grind
  · have e := rc hc1 q hq
    rw [g4, eM]
    clear ra rb rc rd d1 d2 d3 d4 d5 d6 d7 d8 d9 d10 I eS eS2 eM g22 g21 g8 g4 g6 z7 z0 z1 hk7 e7
    grind
  · have e := rd key hk
    have f13 : ∀ i, sp_send S p 13 i = S 13 i := fun i => by rw [eS, eS2]; grind
    have f14 : ∀ i, sp_send S p 14 i = S 14 i := fun i => by rw [eS, eS2]; grind
    have m13 : ∀ i, mo_send M p 13 i = M 13 i := fun i => by rw [eM]; grind
    have m14 : ∀ i, mo_send M p 14 i = M 14 i := fun i => by rw [eM]; grind
    rw [z0, g21, f13, f14, m13, m14]
    exact e
  · rw [g22, z1]; exact d1
  · rw [g22, z1]; exact d2
  · rw [g22, z1]; exact d3
  · rw [g22]; exact d4
  · rw [g22, z0, g21]; exact d5
  · rw [g21]; exact d6
  · rw [g22, g8]; exact d7
  · rw [g8] at h
    have a := d8 c h
    rw [z0, g21, g4]
    refine ⟨a.1, a.2.1, a.2.2.1, ?_⟩
    split
    · rfl
    · exact a.2.2.2
  · rw [g22] at hu
    obtain ⟨a1, a2, a3, a4⟩ := d9 hu c h
    rw [g22, g4, g8, g21]
    have hne : ¬ nI 0 = nI 1 := by decide
    by_cases hcp : c / 4 = p
    · have hz := a2 (by rw [hcp]; exact hc2)
      have key : ∀ i, i < zn (sp_send S p) 7 c → sp_send S p 6 (8 * c + i) = -(S 22 2) → c % 4 < zn S 22 0 ∧ i = zn S 7 c := by
        intro i hi he
        have h7 := (hO.n7 c).2
        rw [z7] at hi
        rw [g6, show (8 * c + i) / 8 = c + i / 8 by omega] at he
        by_cases hcw : 4 * p ≤ c ∧ c < 4 * p + zn S 22 0
        · rw [if_pos hcw] at hi
          have h8 := hc (c % 4) (by omega)
          rw [show 4 * p + c % 4 = c by omega] at h8
          rw [show c + i / 8 = c by omega, show (8 * c + i) % 8 = i by omega] at he
          split at he
          · rename_i q; exact ⟨by omega, q.2.2⟩
          · rename_i q
            exact absurd he (hz i (by omega))
        · rw [if_neg hcw] at hi
          rw [show c + i / 8 = c by omega, if_neg (fun q => hcw ⟨q.1, q.2.1⟩)] at he
          exact absurd he (hz i hi)
      rw [if_pos hcp]
      refine ⟨fun i j hi hj hx hy => (key i hi hx).2.trans (key j hj hy).2.symm, fun z => absurd z.symm hne, fun z => ?_, fun z => ?_⟩
      · have := (d8 c z).2.2.2
        rw [hcp, hc2] at this
        exact absurd this hne
      · have := (a4 z).2
        rw [hcp, hc2] at this
        exact absurd this hne
    · have hcw : ¬ (4 * p ≤ c ∧ c < 4 * p + zn S 22 0) := by omega
      have hzz : zn (sp_send S p) 7 c = zn S 7 c := by rw [z7, if_neg hcw]
      have h7 := (hO.n7 c).2
      have hit : ∀ i, i < zn S 7 c → sp_send S p 6 (8 * c + i) = S 6 (8 * c + i) := fun i hi => by
        rw [g6, if_neg (fun q => hcw (by have := q.1; have := q.2.1; omega))]
      have hno : zno S c → zno (sp_send S p) c := fun hz i hi he => by
        rw [hzz] at hi
        rw [hit i hi, g22] at he
        exact hz i hi he
      rw [if_neg hcp, hzz]
      exact ⟨fun i j hi hj hx hy => a1 i j hi hj (by rw [← hit i hi]; exact hx) (by rw [← hit j hj]; exact hy), fun z => hno (a2 z), fun z => hno (a3 z), fun z => ⟨hno (a4 z).1, (a4 z).2⟩⟩
  · rw [z1, g6]
    split
    · rcases d2 with h2 | ⟨h2, h3⟩
      · exact absurd h2 hc1
      · have h5 : zn S 22 1 < 2 ^ 31 := by
          unfold zn Int32.toNatClampNeg
          have := (S 22 1).toInt_lt
          omega
        have h6 : (nI (zn S 22 1)).toInt = (zn S 22 1 : Int) := nI_toInt h5
        rw [← d1.1] at h6
        have h8 : (-(S 22 1)).toInt = -(zn S 22 1 : Int) := by rw [Int32.toInt_neg, h6, Int.bmod_eq_of_le (by omega) (by omega)]
        rw [h2]
        omega
    · exact d10 i
  · show (sp_sb S p (zn S 22 0) 2 p).toNatClampNeg = (mo_send M p 2 p).toNatClampNeg
    rw [eS2, eM]
    have := congrFun (ra 2 (by decide) (by decide) (by decide) (by decide)) p
    grind
/-- the first item goes -/
theorem iv_rem {k : Nat} {S M : zS} (I : IV k S M) {c0 : Nat} (h0 : 0 < zn S 7 c0) (hc0 : c0 < 16) : IV k (sp_rem S c0) (sp_rem M c0) ∧ (¬ S 22 2 = (-1) → S 6 (8 * c0) = -(S 22 2) → zno (sp_rem S c0) c0) := by
  have hO := I.1
  have e7 := I.zn 7 c0 (by decide)
  obtain ⟨d1, d2, d3, d4, d5, d6, d7, d8, d9, d10⟩ := I.2.2.2
  have g22 : sp_rem S c0 22 = S 22 := by funext i; rw [rem_at]; grind
  have g21 : sp_rem S c0 21 = S 21 := by funext i; rw [rem_at]; grind
  have g8 : sp_rem S c0 8 = S 8 := by funext i; rw [rem_at]; grind
  have g4 : sp_rem S c0 4 = S 4 := by funext i; rw [rem_at]; grind
  have g6 : ∀ i, sp_rem S c0 6 i = if 8 * c0 ≤ i ∧ i < 8 * c0 + (zn S 7 c0 - 1) then S 6 (i + 1) else S 6 i := fun i => by rw [rem_at]; grind
  have z7 : ∀ c, zn (sp_rem S c0) 7 c = if c = c0 then zn S 7 c0 - 1 else zn S 7 c := fun c => by
    have := (hO.n7 c0).2
    show (sp_rem S c0 7 c).toNatClampNeg = _
    rw [rem_at]
    by_cases h : c = c0
    · rw [if_pos ⟨rfl, h⟩, if_pos h, nI_cl (by omega)]
    · rw [if_neg (fun z => h z.2), if_neg (by omega), if_neg h]
      rfl
  have hit : ∀ c i, i < zn (sp_rem S c0) 7 c → ∃ i2, i2 < zn S 7 c ∧ sp_rem S c0 6 (8 * c + i) = S 6 (8 * c + i2) ∧ (c = c0 → i2 = i + 1) ∧ (c ≠ c0 → i2 = i) := by
    intro c i hi
    have h7 := (hO.n7 c).2
    have h70 := (hO.n7 c0).2
    rw [z7] at hi
    by_cases h : c = c0
    · subst h
      rw [if_pos rfl] at hi
      exact ⟨i + 1, by omega, by rw [g6, if_pos (by omega), Nat.add_assoc], fun _ => rfl, fun z => absurd rfl z⟩
    · rw [if_neg h] at hi
      exact ⟨i, hi, by rw [g6, if_neg (by omega)], fun z => absurd z h, fun _ => rfl⟩
  have hno : ∀ c, zno S c → zno (sp_rem S c0) c := fun c hz i hi he => by
    obtain ⟨i2, b1, b2, -⟩ := hit c i hi
    rw [b2, g22] at he
    exact hz i2 b1 he
  have z0 : zn (sp_rem S c0) 22 0 = zn S 22 0 := by unfold zn; rw [g22]
  have z1 : zn (sp_rem S c0) 22 1 = zn S 22 1 := by unfold zn; rw [g22]
  refine ⟨⟨zOK_rem hO, zOK_rem I.2.1, ?_, ⟨by rw [g22, z1]; exact d1, by rw [g22, z1]; exact d2, by rw [g22, z1]; exact d3, by rw [g22]; exact d4, by rw [g22, z0, g21]; exact d5, by rw [g21]; exact d6, by rw [g22, g8]; exact d7, by rw [g8, z0, g21, g4]; exact d8, ?_, fun i => ?_⟩⟩, fun hu hx i hi he => ?_⟩
  · refine zRel_congr I.2.2.1 (fun j j1 j2 j3 j4 h5 => ?_) ⟨g22, ?_⟩ ⟨g4, ?_⟩ ⟨?_, ?_⟩ ⟨?_, ?_⟩ g21
    · funext i
      rw [rem_at, rem_at, e7, h5, I.sh 6 (by decide)]
    all_goals (funext i; rw [rem_at]; grind)
  · rw [g22, g4, g8, g21]
    intro hu c hc
    obtain ⟨a1, a2, a3, a4⟩ := d9 hu c hc
    refine ⟨fun i j hi hj hx hy => ?_, fun z => hno c (a2 z), fun z => hno c (a3 z), fun z => ⟨hno c (a4 z).1, (a4 z).2⟩⟩
    obtain ⟨i2, b1, b2, b3, b4⟩ := hit c i hi
    obtain ⟨j2, f1, f2, f3, f4⟩ := hit c j hj
    have := a1 i2 j2 b1 f1 (by rw [← b2]; exact hx) (by rw [← f2]; exact hy)
    by_cases h : c = c0
    · have := b3 h; have := f3 h; omega
    · have := b4 h; have := f4 h; omega
  · rw [z1, g6]
    split
    · exact d10 (i + 1)
    · exact d10 i
  · obtain ⟨i2, b1, b2, b3, -⟩ := hit c0 i hi
    rw [b2, g22] at he
    have := (d9 hu c0 hc0).1 0 i2 h0 b1 hx he
    have := b3 rfl
    omega
theorem iv_te {k : Nat} {S M : zS} (I : IV k S M) (key v : Nat) : IV k (sp_te S key v) (sp_te M key v) := by
  refine ⟨zOK_te I.1, zOK_te I.2.1, ?_, zDeep_congr (fun i hi => ?_) ?_ ?_ ?_ ?_ ?_ I.2.2.2⟩
  · refine zRel_congr I.2.2.1 (fun j j1 j2 j3 j4 h5 => ?_) ⟨?_, ?_⟩ ⟨?_, ?_⟩ ⟨?_, ?_⟩ ⟨?_, ?_⟩ ?_
    · funext i
      rw [te_at, te_at, h5]
    all_goals (funext i; rw [te_at]; grind)
  · rw [te_at]; grind
  all_goals (funext i; rw [te_at]; grind)
theorem iv_blk {k : Nat} {S M : zS} (I : IV k S M) {p w : Nat} (hp : p < 4) (hw : w < zn S 22 0) (hu : ¬ S 22 2 = (-1)) (hs : S 21 w = (-1)) (h4 : S 4 p = nI 1) (hz : zno S (4 * p + w)) : IV k (sp_blk S p w) (sp_blk M p w) := by
  have hW := (zOK.w I.1).2.2
  obtain ⟨d1, d2, d3, d4, d5, d6, d7, d8, d9, d10⟩ := I.2.2.2
  have g : ∀ j, j ≠ 8 → sp_blk S p w j = S j := fun j hj => by funext i; rw [blk_at, if_neg (fun z => hj z.1)]
  have gM : ∀ j, j ≠ 8 → sp_blk M p w j = M j := fun j hj => by funext i; rw [blk_at, if_neg (fun z => hj z.1)]
  have g8 : ∀ c, sp_blk S p w 8 c = if c = 4 * p + w then nI 1 else S 8 c := fun c => by rw [blk_at]; grind
  have z : ∀ j i, j ≠ 8 → zn (sp_blk S p w) j i = zn S j i := fun j i hj => by unfold zn; rw [g j hj]
  have e1 : (4 * p + w) % 4 = w := by omega
  have e2 : (4 * p + w) / 4 = p := by omega
  refine ⟨zOK_blk I.1, zOK_blk I.2.1, ?_, ⟨by rw [g 22 (by decide), z 22 1 (by decide)]; exact d1, by rw [g 22 (by decide), z 22 1 (by decide)]; exact d2, by rw [g 22 (by decide), z 22 1 (by decide)]; exact d3, by rw [g 22 (by decide)]; exact d4, by rw [g 22 (by decide), z 22 0 (by decide), g 21 (by decide)]; exact d5, by rw [g 21 (by decide)]; exact d6, fun h => ?_, fun c hc => ?_, ?_, by rw [g 6 (by decide), z 22 1 (by decide)]; exact d10⟩⟩
  · refine zRel_congr I.2.2.1 (fun j j1 j2 j3 j4 h5 => ?_) ⟨g 22 (by decide), gM 22 (by decide)⟩ ⟨g 4 (by decide), gM 4 (by decide)⟩ ⟨g 13 (by decide), gM 13 (by decide)⟩ ⟨g 14 (by decide), gM 14 (by decide)⟩ (g 21 (by decide))
    funext i
    rw [blk_at, blk_at, h5]
  · rw [g 22 (by decide)] at h
    exact absurd h hu
  · rw [z 22 0 (by decide), g 21 (by decide), g 4 (by decide)]
    rw [g8] at hc
    split at hc
    · rename_i h
      subst h
      rw [e1, e2]
      exact ⟨by omega, hw, hs, h4⟩
    · exact d8 c hc
  · unfold zno
    rw [g 22 (by decide), g 4 (by decide), g 21 (by decide), g 6 (by decide)]
    intro _ c hc
    obtain ⟨a1, a2, a3, a4⟩ := d9 hu c hc
    rw [z 7 c (by decide)]
    refine ⟨a1, a2, fun h => ?_, a4⟩
    rw [g8] at h
    split at h
    · rename_i h3
      rw [h3]
      exact hz
    · exact a3 h
theorem seal1_g (S : zS) {w : Nat} (hw : w < 4) (j : Nat) (hj : j = 4 ∨ j = 6 ∨ j = 7 ∨ j = 22) : sp_seal1 S w j = S j := by
  funext i
  rw [seal1_at S w hw]
  rcases hj with rfl | rfl | rfl | rfl <;> grind
theorem al1_g (S : zS) {w : Nat} (hw : w < 4) (j : Nat) (hj : j = 4 ∨ j = 22) : mo_al1 S w j = S j := by
  funext i
  rw [al1_at S w hw]
  rcases hj with rfl | rfl <;> grind
theorem seal1_t (S : zS) {w key : Nat} (hw : w < 4) (hk : key < 32) (ho : zown (zn S 22 0) key = w) : sp_seal1 S w 13 key = S 13 key + S 11 key ∧ sp_seal1 S w 14 key = S 14 key + S 12 key := by
  rw [seal1_at S w hw, seal1_at S w hw]
  grind
theorem al1_t (S : zS) {w key : Nat} (hw : w < 4) (hk : key < 32) (ho : zown (zn S 22 0) key = w) : mo_al1 S w 13 key = S 11 key ∧ mo_al1 S w 14 key = S 12 key := by
  rw [al1_at S w hw, al1_at S w hw]
  grind
theorem iv_seal1 {k : Nat} {S M : zS} (I : IV k S M) {w : Nat} (hw : w < zn S 22 0) (hu : ¬ S 22 2 = (-1)) (hs : S 21 w = (-1)) (hb : ∀ q, q < 4 → S 8 (4 * q + w) = nI 1) : IV k (sp_seal1 S w) (mo_al1 M w) := by
  have hO := I.1
  have hW := (zOK.w hO).2.2
  have hw4 : w < 4 := by omega
  have hW0 := I.W
  obtain ⟨ra, rb, rc, rd⟩ := I.2.2.1
  obtain ⟨d1, d2, d3, d4, d5, d6, d7, d8, d9, d10⟩ := I.2.2.2
  have eS := fun j i => seal1_at S w hw4 j i
  have eM := fun j i => al1_at M w hw4 j i
  have g : ∀ j, j = 4 ∨ j = 6 ∨ j = 7 ∨ j = 22 → sp_seal1 S w j = S j := fun j hj => seal1_g S hw4 j hj
  have gM : ∀ j, j = 4 ∨ j = 22 → mo_al1 M w j = M j := fun j hj => al1_g M hw4 j hj
  have g21 : ∀ i, sp_seal1 S w 21 i = if i = w then S 22 2 else S 21 i := fun i => by rw [eS]; grind
  have g8 : ∀ i, sp_seal1 S w 8 i = if i < 16 ∧ i % 4 = w then nI 0 else S 8 i := fun i => by rw [eS]; grind
  have z : ∀ j i, j = 4 ∨ j = 6 ∨ j = 7 ∨ j = 22 → zn (sp_seal1 S w) j i = zn S j i := fun j i hj => by unfold zn; rw [g j hj]
  have u2 := rb 2 (by decide)
  refine ⟨zOK_seal1 hO, zOK_al1 I.2.1, ⟨fun j j1 j2 j3 j4 => ?_, fun i hi => ?_, fun _ p hp => ?_, fun key hk => ?_⟩, ⟨by rw [g 22 (by decide), z 22 1 (by decide)]; exact d1, by rw [g 22 (by decide), z 22 1 (by decide)]; exact d2, by rw [g 22 (by decide), z 22 1 (by decide)]; exact d3, by rw [g 22 (by decide)]; exact d4, fun v hv => ?_, fun j hj => ?_, fun h => ?_, fun c hc => ?_, ?_, by rw [g 6 (by decide), z 22 1 (by decide)]; exact d10⟩⟩
  · funext i
    have e := congrFun (ra j j1 j2 j3 j4) i
    have r9 := congrFun (ra 9 (by decide) (by decide) (by decide) (by decide)) i
    have r10 := congrFun (ra 10 (by decide) (by decide) (by decide) (by decide)) i
    rw [eM, eS, hW0, u2]
    clear ra rb rc rd d1 d2 d3 d4 d5 d6 d7 d8 d9 d10 I eS eM g gM g21 g8 z
    grind (splits := 40)
  · rw [g 22 (by decide), gM 22 (by decide)]; exact rb i hi
  · rw [g 4 (by decide), gM 4 (by decide)]; exact rc hu p hp
  · have e := rd key hk
    have r11 := congrFun (ra 11 (by decide) (by decide) (by decide) (by decide)) key
    have r12 := congrFun (ra 12 (by decide) (by decide) (by decide) (by decide)) key
    rw [z 22 0 (by decide), g21]
    by_cases ho : zown (zn S 22 0) key = w
    · rw [if_pos ho]
      have e2 := e.2 (by rw [ho]; exact hs)
      refine ⟨fun _ => ⟨?_, ?_⟩, fun h => absurd h hu⟩
      · rw [(al1_t M hw4 hk (by rw [hW0]; exact ho)).1, (seal1_t S hw4 hk ho).1, e2.1, r11, nI_0, Int32.zero_add]
      · rw [(al1_t M hw4 hk (by rw [hW0]; exact ho)).2, (seal1_t S hw4 hk ho).2, e2.2, r12, nI_0, Int32.zero_add]
    · rw [if_neg ho]
      have f13 : sp_seal1 S w 13 key = S 13 key := by rw [eS]; grind
      have f14 : sp_seal1 S w 14 key = S 14 key := by rw [eS]; grind
      have m13 : mo_al1 M w 13 key = M 13 key := by rw [eM, hW0]; grind
      have m14 : mo_al1 M w 14 key = M 14 key := by rw [eM, hW0]; grind
      rw [f13, f14, m13, m14]
      exact e
  · rw [z 22 0 (by decide), g 22 (by decide), g21]
    split
    · rename_i h
      exact Or.inr ⟨by omega, fun _ => rfl, fun h2 => absurd h2 hu⟩
    · exact d5 v hv
  · rw [g21, if_neg (by omega)]; exact d6 j hj
  · rw [g 22 (by decide)] at h
    exact absurd h hu
  · rw [g8] at hc
    split at hc
    · exact absurd hc (by decide)
    · rename_i h
      have a := d8 c hc
      rw [z 22 0 (by decide), g21, g 4 (by decide), if_neg (fun q => h ⟨a.1, q⟩)]
      exact a
  · unfold zno
    rw [g 22 (by decide), g 4 (by decide), g 6 (by decide), ]
    intro _ c hc
    obtain ⟨a1, a2, a3, a4⟩ := d9 hu c hc
    rw [z 7 c (by decide), g21]
    refine ⟨a1, a2, fun h => ?_, fun h => ?_⟩
    · rw [g8] at h
      split at h
      · exact absurd h (by decide)
      · exact a3 h
    · by_cases hcw : c % 4 = w
      · have h1 := hb (c / 4) (by omega)
        rw [show 4 * (c / 4) + w = c by omega] at h1
        exact ⟨a3 h1, (d8 c h1).2.2.2⟩
      · rw [if_neg hcw] at h
        exact a4 h
theorem iv_cc {k : Nat} {S M : zS} (I : IV k S M) (hu : ¬ S 22 2 = (-1)) (ha : zallS S) : IV k (sp_cc S) (mo_cc M) := by
  have hO := I.1
  obtain ⟨ra, rb, rc, rd⟩ := I.2.2.1
  obtain ⟨d1, d2, d3, d4, d5, d6, d7, d8, d9, d10⟩ := I.2.2.2
  have g : ∀ j, j ≠ 17 → j ≠ 18 → j ≠ 3 → j ≠ 22 → sp_cc S j = S j := fun j j1 j2 j3 j4 => by funext i; rw [cc_at]; grind
  have gM : ∀ j, j ≠ 17 → j ≠ 18 → j ≠ 3 → j ≠ 22 → mo_cc M j = M j := fun j j1 j2 j3 j4 => by funext i; rw [mcc_at]; grind
  have g0 : sp_cc S 22 0 = S 22 0 := by rw [cc_at]; grind
  have g1 : sp_cc S 22 1 = S 22 1 := by rw [cc_at]; grind
  have g2 : sp_cc S 22 2 = (-1) := by rw [cc_at]; grind
  have g3 : sp_cc S 22 3 = S 22 2 := by rw [cc_at]; grind
  have z0 : zn (sp_cc S) 22 0 = zn S 22 0 := w0_at g0
  have z1 : zn (sp_cc S) 22 1 = zn S 22 1 := congrArg Int32.toNatClampNeg g1
  have h8 : ∀ c, S 8 c = nI 0 := fun c => (hO.b8 c).elim id (fun z => absurd (d8 c z).2.2.1 (ha _ (d8 c z).2.1))
  refine ⟨zOK_cc hO, zOK_mcc I.2.1, ⟨fun j j1 j2 j3 j4 => ?_, fun i hi => ?_, fun h => absurd g2 h, fun key hk => ?_⟩, ⟨by rw [g1, z1]; exact d1, Or.inl g2, ?_, fun h => absurd g2 h, fun w hw => ?_, fun j hj => ?_, fun _ c => ?_, fun c hc => ?_, fun h => absurd g2 h, fun i => ?_⟩⟩
  · funext i
    have e := congrFun (ra j j1 j2 j3 j4) i
    have e15 := congrFun (ra 15 (by decide) (by decide) (by decide) (by decide)) i
    have e16 := congrFun (ra 16 (by decide) (by decide) (by decide) (by decide)) i
    have e5 := congrFun (ra 5 (by decide) (by decide) (by decide) (by decide)) i
    rw [mcc_at, cc_at, e15, e16, e5, e]
    grind
  · have e := rb i hi
    have e2 := rb 2 (by decide)
    rw [mcc_at, cc_at]
    clear ra rb rc rd d1 d2 d3 d4 d5 d6 d7 d8 d9 d10 I
    grind
  · rw [z0, g 21 (by decide) (by decide) (by decide) (by decide), g 13 (by decide) (by decide) (by decide) (by decide), g 14 (by decide) (by decide) (by decide) (by decide), gM 13 (by decide) (by decide) (by decide) (by decide), gM 14 (by decide) (by decide) (by decide) (by decide)]
    exact rd key hk
  · rw [g3, z1]
    rcases d2 with h2 | ⟨h2, h3⟩
    · exact absurd h2 hu
    · exact Or.inr ⟨zn S 22 1, h3, Nat.le_refl _, h2.trans d1.1⟩
  · rw [g 21 (by decide) (by decide) (by decide) (by decide), z0, g2, g3]
    exact (d5 w hw).elim Or.inl (fun z => Or.inr ⟨z.1, fun h => absurd rfl h, fun _ => z.2.1 hu⟩)
  · rw [g 21 (by decide) (by decide) (by decide) (by decide)]; exact d6 j hj
  · rw [g 8 (by decide) (by decide) (by decide) (by decide)]; exact h8 c
  · rw [g 8 (by decide) (by decide) (by decide) (by decide), h8] at hc
    exact absurd hc (by decide)
  · rw [g 6 (by decide) (by decide) (by decide) (by decide), z1]; exact d10 i
