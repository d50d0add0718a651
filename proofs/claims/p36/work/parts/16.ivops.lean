/-! each call keeps the tie: to be proved -/
theorem zDeep_congr {k : Nat} {S T : zS} (h22 : ∀ i, i < 4 → T 22 i = S 22 i) (h21 : T 21 = S 21) (h8 : T 8 = S 8) (h4 : T 4 = S 4) (h6 : T 6 = S 6) (h7 : T 7 = S 7) (D : zDeep k S) : zDeep k T := by
  unfold zDeep zno zn at *
  rw [h21, h8, h4, h6, h7, h22 0 (by decide), h22 1 (by decide), h22 2 (by decide), h22 3 (by decide)]
  exact D
theorem zRel_congr {S M : zS} {T N : zS} (h : zRel S M) (hj : ∀ j, j ≠ 4 → j ≠ 13 → j ≠ 14 → j ≠ 22 → M j = S j → N j = T j) (h22 : T 22 = S 22 ∧ N 22 = M 22) (h4 : T 4 = S 4 ∧ N 4 = M 4) (h13 : T 13 = S 13 ∧ N 13 = M 13) (h14 : T 14 = S 14 ∧ N 14 = M 14) (h21 : T 21 = S 21) : zRel T N := by
  obtain ⟨a, b, c, d⟩ := h
  refine ⟨fun j h1 h2 h3 h5 => hj j h1 h2 h3 h5 (a j h1 h2 h3 h5), ?_, ?_, ?_⟩
  · rw [h22.1, h22.2]; exact b
  · rw [h22.1, h4.1, h4.2]; exact c
  · unfold zn at *
    rw [h22.1, h13.1, h13.2, h14.1, h14.2, h21]; exact d
theorem iv_append {k : Nat} {S M : zS} (I : IV k S M) {p key v : Nat} (hp : p < 4) (hk : key < 32) (hv : v ≤ 100) (hn : zn S 0 p < 60) : IV (k + 1) (sp_app S p (nI (1000 * key + v))) (sp_app (zth M 0) p (nI (1000 * key + v))) := by
  have I0 := iv_q I 0
  have e0 := I0.sh 0 (by decide)
  have e1 := I0.sh 1 (by decide)
  have ez := I0.zn 0 p (by decide)
  refine ⟨zOK_app I.1 hn (by omega), zOK_app I0.2.1 (by rw [ez]; exact hn) (by omega), ?_, zDeep_congr (fun i hi => rfl) rfl rfl rfl rfl rfl I0.2.2.2⟩
  refine zRel_congr I0.2.2.1 (fun j h1 h2 h3 h4 h5 => ?_) ⟨rfl, rfl⟩ ⟨rfl, rfl⟩ ⟨rfl, rfl⟩ ⟨rfl, rfl⟩ rfl
  funext i
  unfold sp_app
  simp only [zU_at, up_at, ez, e0, e1, h5]
theorem zDeep_less {k : Nat} {S T : zS} (h22 : ∀ i, i < 4 → T 22 i = S 22 i) (h21 : ∀ j, T 21 j = S 21 j ∨ (j < 4 ∧ T 21 j = (-1))) (h8 : T 8 = S 8) (h4 : T 4 = S 4) (h6 : T 6 = S 6) (h7 : T 7 = S 7) (D : zDeep k S) : zDeep k T := by
  unfold zDeep zno zn at *
  rw [h8, h4, h6, h7, h22 0 (by decide), h22 1 (by decide), h22 2 (by decide), h22 3 (by decide)]
  obtain ⟨d1, d2, d3, d4, d5, d6, d7, d8, d9, d10⟩ := D
  refine ⟨d1, d2, d3, d4, fun w hw => ?_, fun j hj => ?_, d7, fun c hc => ?_, fun hu c hc => ?_, d10⟩
  · rcases h21 w with h | h
    · rw [h]; exact d5 w hw
    · exact Or.inl h.2
  · rcases h21 j with h | h
    · rw [h]; exact d6 j hj
    · omega
  · obtain ⟨a, b, c1, d⟩ := d8 c hc
    refine ⟨a, b, ?_, d⟩
    rcases h21 (c % 4) with h | h
    · rw [h]; exact c1
    · exact h.2
  · obtain ⟨a, b, c1, d⟩ := d9 hu c hc
    refine ⟨a, b, c1, fun hz => ?_⟩
    rcases h21 (c % 4) with h | h
    · rw [h] at hz; exact d hz
    · exact absurd h.2 hz
theorem iv_commit {k : Nat} {S M : zS} (I : IV k S M) {w : Nat} (hw : w < zn S 22 0) (hc : zrdy S w) : IV k (sp_com S w) (mo_com M w) ∧ sp_comr S w = mo_comc M w 32 := by
  have hw4 : w < 4 := by have := (zOK.w I.1).2.2; omega
  obtain ⟨ra, rb, rc, rd⟩ := I.2.2.1
  have rd1 : ∀ key, key < 32 → zown (zn S 22 0) key = w → M 13 key = S 13 key ∧ M 14 key = S 14 key := fun key hk ho => (rd key hk).1 (by rw [ho]; exact hc.1)
  refine ⟨⟨zOK_com I.1, zOK_mcom I.2.1, ⟨fun j h1 h2 h3 h4 => ?_, fun i hi => ?_, fun hu p hp => ?_, fun key hk => ?_⟩, zDeep_less (fun i hi => ?_) (fun j => ?_) ?_ ?_ ?_ ?_ I.2.2.2⟩, ?_⟩
  · funext i
    have e := congrFun (ra j h1 h2 h3 h4) i
    have e19 := congrFun (ra 19 (by decide) (by decide) (by decide) (by decide)) i
    have e20 := congrFun (ra 20 (by decide) (by decide) (by decide) (by decide)) i
    have e13 := rd1 i
    rw [com_at, mcom_at, I.W]
    grind
  · have e := rb i hi
    rw [com_at, mcom_at, I.W]
    grind
  · have e := rc (by rw [com_at] at hu; grind) p hp
    rw [com_at, mcom_at, I.W]
    grind
  · have e := rd key hk
    have h0 : zn (sp_com S w) 22 0 = zn S 22 0 := w0_at (w0_com S w)
    rw [h0]
    simp only [com_at, mcom_at, I.W]
    grind
  · rw [com_at]; grind
  · rw [com_at]; grind
  · funext i; rw [com_at]; grind
  · funext i; rw [com_at]; grind
  · funext i; rw [com_at]; grind
  · funext i; rw [com_at]; grind
  · have key : ∀ t, t ≤ 32 → sp_mc (sp_un S w) 13 19 w t = mo_comc M w t := by
      intro t
      induction t with
      | zero => intro _; rfl
      | succ t ih =>
        intro ht
        have h1 : zn (sp_mv (sp_un S w) 13 19 w t) 22 0 = zn S 22 0 := w0_at ((w0_mv _ w (by omega) (by omega) t).trans (w0_un S w))
        have h2 : zn (mo_com1 M w t) 22 0 = zn S 22 0 := (w0_at (w0_com1 M w t)).trans I.W
        have h3 : sp_mv (sp_un S w) 13 19 w t 13 t = S 13 t := by
          rw [mv_at _ _ _ _ (by omega) (by omega) (by omega)]
          simp only [un_at]
          grind
        have h4 : mo_com1 M w t 13 t = M 13 t := by
          rw [com1_at]
          grind
        unfold sp_mc mo_comc
        rw [h1, h2, h3, h4, ih (by omega)]
        split
        · rename_i h5
          rw [(rd1 t (by omega) h5).1]
        · rfl
    exact key 32 (Nat.le_refl _)
theorem iv_may {k : Nat} {S M : zS} (I : IV k S M) {w : Nat} (hw : w < zn S 22 0) : zmay M w ↔ zrdy S w := by
  have h4 := (zOK.w I.1).2.2
  obtain ⟨h1, h2, h3, h5, h6, -⟩ := I.2.2.2
  have e1 := congrFun (I.sh 21 (by decide)) w
  have e2 := I.s22 2 (by decide)
  have h7 := h6 w (by omega)
  unfold zmay zrdy
  rw [e1, e2]
  grind
theorem iv_begin {k : Nat} {S M : zS} (I : IV k S M) (hk : k ≤ 2000) (h1 : S 22 2 = (-1)) (h2 : ∀ w, w < zn S 22 0 → S 21 w = (-1)) : IV (k + 1) (sp_beg S) (mo_beg M) := by
  have hO := I.1
  obtain ⟨ra, rb, rc, rd⟩ := I.2.2.1
  obtain ⟨d1, d2, d3, d4, d5, d6, d7, d8, d9, d10⟩ := I.2.2.2
  have eS : ∀ j i, sp_beg S j i = if j = 4 ∧ i < 4 then nI 0 else if j = 22 ∧ (i = 1 ∨ i = 2) then S 22 1 + nI 1 else S j i := fun j i => by
    unfold sp_beg
    simp only [zU_at, up_at, z_at]
    grind
  have eM : ∀ j i, mo_beg M j i = if (j = 8 ∧ i < 16) ∨ (j = 4 ∧ i < 4) then nI 0 else if j = 22 ∧ (i = 1 ∨ i = 2) then M 22 1 + nI 1 else M j i := fun j i => by
    unfold mo_beg
    rw [lift_at]
    simp only [zU_at, up_at]
    grind
  have hu : S 22 1 + nI 1 = nI (zn S 22 1 + 1) := by
    have h := d1.1
    exact (congrArg (· + nI 1) h).trans (nI_add _ 1)
  have g1 : sp_beg S 22 1 = nI (zn S 22 1 + 1) := by rw [eS, ← hu]; grind
  have g2 : sp_beg S 22 2 = nI (zn S 22 1 + 1) := by rw [eS, ← hu]; grind
  have g3 : sp_beg S 22 3 = S 22 3 := by rw [eS]; grind
  have g0 : sp_beg S 22 0 = S 22 0 := by rw [eS]; grind
  have z0 : zn (sp_beg S) 22 0 = zn S 22 0 := w0_at g0
  have z1 : zn (sp_beg S) 22 1 = zn S 22 1 + 1 := by
    show (sp_beg S 22 1).toNatClampNeg = _
    rw [g1, nI_cl (by omega)]
  have g21 : ∀ j, sp_beg S 21 j = S 21 j := fun j => by rw [eS]; grind
  have a21 : ∀ w, w < 4 → S 21 w = (-1) := fun w hw => (d5 w hw).elim id (fun z => h2 w z.1)
  have g8 : ∀ c, sp_beg S 8 c = nI 0 := fun c => by rw [eS, ← d7 h1 c]; grind
  have g6 : ∀ i, sp_beg S 6 i = S 6 i := fun i => by rw [eS]; grind
  have hno : ∀ c, zno (sp_beg S) c := by
    intro c i hi hz
    rw [g6, g2] at hz
    have h3 := d10 (8 * c + i)
    rw [hz, Int32.toInt_neg, nI_toInt (by omega), Int.bmod_eq_of_le (by omega) (by omega)] at h3
    omega
  have hne : ¬ nI (zn S 22 1 + 1) = (-1) := fun h => by
    have h3 := congrArg Int32.toInt h
    rw [nI_toInt (by omega)] at h3
    have h4 : ((-1 : Int32)).toInt = -1 := by decide
    omega
  refine ⟨?_, ?_, ⟨fun j j1 j2 j3 j4 => ?_, fun i hi => ?_, fun _ p hp => ?_, fun key hkey => ?_⟩, ⟨?_, Or.inr ?_, ?_, fun _ => ?_, fun w hw => Or.inl ?_, fun j hj => ?_, fun h => absurd (g2.symm.trans h) hne, fun c hc => ?_, fun _ c hc => ⟨fun i j hi hj hz => absurd hz (hno c i hi), fun _ => hno c, fun _ => hno c, fun hz => absurd ((g21 _).trans (a21 (c % 4) (by omega))) hz⟩, fun i => ?_⟩⟩
  · have h3 := zOK_22 (i := 2) (x := S 22 1 + nI 1) (zOK_22 (i := 1) (x := S 22 1 + nI 1) hO (by decide)) (by decide)
    rw [zU_U] at h3
    exact zOK_4 h3 (zBb_z hO.2.2.2.2.1 4)
  · have h3 := zOK_22 (i := 2) (x := M 22 1 + nI 1) (zOK_22 (i := 1) (x := M 22 1 + nI 1) I.2.1 (by decide)) (by decide)
    rw [zU_U] at h3
    exact zOK_lift h3
  · funext i
    have e := congrFun (ra j j1 j2 j3 j4) i
    have a := d7 h1 i
    rw [eM, eS]
    grind
  · have e := rb i hi
    have e1 := rb 1 (by decide)
    rw [eM, eS]
    grind
  · rw [eM, eS]; grind
  · have e := rd key hkey
    rw [z0, g21]
    simp only [eM, eS]
    grind
  · exact ⟨by rw [z1]; exact g1, by rw [z1]; omega⟩
  · exact ⟨g2.trans g1.symm, by omega⟩
  · rw [g3, z1]
    exact d3.elim Or.inl (fun ⟨c, h3, h4, h5⟩ => Or.inr ⟨c, h3, by omega, h5⟩)
  · rw [g3, g2]
    rcases d3 with h3 | ⟨c, h3, h4, h5⟩
    · rw [h3]; exact fun h => hne h.symm
    · rw [h5]
      exact fun h => absurd ((nI_eq (by omega) (by omega)).mp h) (by omega)
  · rw [g21]; exact a21 w hw
  · rw [g21]; exact d6 j hj
  · rw [g8] at hc
    exact absurd hc (by decide)
  · have := d10 i
    rw [g6, z1]
    omega
theorem iv_none {k : Nat} {S M : zS} (I : IV k S M) : (M 21 0 = (-1) ∧ M 21 1 = (-1) ∧ M 21 2 = (-1) ∧ M 21 3 = (-1)) ↔ ∀ w, w < zn S 22 0 → S 21 w = (-1) := by
  have h4 := (zOK.w I.1).2
  obtain ⟨h1, h2, h3, h5, h6, -⟩ := I.2.2.2
  rw [I.sh 21 (by decide)]
  have g : ∀ w, w < 4 → S 21 w = (-1) ∨ w < zn S 22 0 := fun w hw => (h6 w hw).elim Or.inl (fun z => Or.inr z.1)
  refine ⟨fun h w hw => ?_, fun h => ⟨?_, ?_, ?_, ?_⟩⟩
  · rcases (show w = 0 ∨ w = 1 ∨ w = 2 ∨ w = 3 by omega) with rfl | rfl | rfl | rfl
    · exact h.1
    · exact h.2.1
    · exact h.2.2.1
    · exact h.2.2.2
  · exact (g 0 (by omega)).elim id (h 0)
  · exact (g 1 (by omega)).elim id (h 1)
  · exact (g 2 (by omega)).elim id (h 2)
  · exact (g 3 (by omega)).elim id (h 3)
theorem iv_abandon {k : Nat} {S M : zS} (I : IV k S M) (h1 : ¬ S 22 2 = (-1)) : IV k (sp_ab S) (mo_ab M) ∧ S 22 2 = mo_ab1 M 32 22 2 := by
  have hO := I.1
  have hW := (zOK.w hO).2
  obtain ⟨ra, rb, rc, rd⟩ := I.2.2.1
  obtain ⟨d1, d2, d3, d4, d5, d6, d7, d8, d9, d10⟩ := I.2.2.2
  have eS : ∀ j i, sp_ab S j i = if j = 22 ∧ i = 2 then (-1) else sp_ab1 S (zn S 22 0) j i := fun j i => by unfold sp_ab; rw [sa2_at]
  have e1 := fun j i => sab1_at S j i (zn S 22 0) hW.2
  have eM : ∀ j i, mo_ab M j i = if j = 22 ∧ i = 2 then (-1) else if (j = 8 ∧ i < 16) ∨ (j = 4 ∧ i < 4) then nI 0 else if j = 21 ∧ i < 4 then (-1) else mo_ab1 M 32 j i := fun j i => by
    unfold mo_ab
    rw [sa2_at, lift_at, uns_at]
  have e2 := fun j i => ab1_at M j i 32
  have b2 := rb 2 (by decide)
  have hW0 := I.W
  have h8 : ∀ c, sp_ab S 8 c = nI 0 := fun c => by
    have a := zOK.b8 hO c
    have b := d8 c
    rw [eS, e1]
    grind
  have h21 : ∀ w, w < 4 → sp_ab S 21 w = (-1) := fun w hw => by
    have a := d5 w hw
    rw [eS, e1]
    grind
  have h22 : ∀ i, i ≠ 2 → sp_ab S 22 i = S 22 i := fun i hi => by
    rw [eS, e1]
    grind
  have h222 : sp_ab S 22 2 = (-1) := by rw [eS]; exact if_pos ⟨rfl, rfl⟩
  have z0 : zn (sp_ab S) 22 0 = zn S 22 0 := w0_at (h22 0 (by decide))
  have z1 : zn (sp_ab S) 22 1 = zn S 22 1 := congrArg Int32.toNatClampNeg (h22 1 (by decide))
  refine ⟨⟨?_, ?_, ⟨fun j h1 h2 h3 h4 => ?_, fun i hi => ?_, fun hu => absurd h222 hu, fun key hk => ?_⟩, ⟨?_, Or.inl h222, ?_, fun hu => absurd h222 hu, fun w hw => Or.inl (h21 w hw), fun j hj => ?_, fun _ => h8, fun c hc => ?_, fun hu => absurd h222 hu, fun i => ?_⟩⟩, ?_⟩
  · exact zOK_22 (zOK_ab1 hO _) (by decide)
  · exact zOK_22 (zOK_lift (zOK_uns (zOK_mab1 I.2.1 32))) (by decide)
  · funext i
    have e := congrFun (ra j h1 h2 h3 h4) i
    have g8 := h8 i
    have g21 := h21 i
    have e21 := congrFun (ra 21 (by decide) (by decide) (by decide) (by decide)) (zown (zn S 22 0) i)
    have e11 := congrFun (ra 11 (by decide) (by decide) (by decide) (by decide)) i
    have e12 := congrFun (ra 12 (by decide) (by decide) (by decide) (by decide)) i
    have e13 := rd i
    have ho := zOK.own hO i
    by_cases j8 : j = 8
    · subst j8
      rw [g8, eM, e2]
      have a := zOK.b8 hO i
      have b := d8 i
      grind
    · by_cases j21 : j = 21
      · subst j21
        rw [eM, e2]
        rw [eS, e1] at g21 ⊢
        grind
      · rw [eM, e2, eS, e1, hW0]
        grind
  · have e := rb i hi
    rw [eM, e2]
    rcases (show i = 2 ∨ i ≠ 2 by omega) with rfl | hi2
    · rw [h222]; grind
    · rw [h22 i hi2]; grind
  · have ho := zOK.own hO key
    rw [z0]
    refine ⟨fun hz => absurd (h21 _ ho.2) hz, fun _ => ?_⟩
    have a := d5 _ ho.2
    have b := (rd key hk).2
    simp only [eS, e1]
    grind
  · rw [z1, h22 1 (by decide)]; exact d1
  · rw [z1, h22 3 (by decide)]; exact d3
  · have := d6 j hj
    rw [eS, e1]
    grind
  · rw [h8 c] at hc
    exact absurd hc (by decide)
  · have := d10 i
    rw [z1, eS, e1]
    grind
  · rw [e2]; grind
theorem iv_sa {k : Nat} {S M : zS} (I : IV k S M) {n : Nat} (h1 : 1 ≤ n) (h4 : n ≤ 4) : IV k (sp_sa S n) (mo_sa M n) := by
  have hO := I.1
  have hW := (zOK.w hO).2
  have hW0 := I.W
  obtain ⟨ra, rb, rc, rd⟩ := I.2.2.1
  obtain ⟨d1, d2, d3, d4, d5, d6, d7, d8, d9, d10⟩ := I.2.2.2
  have eS : ∀ j i, sp_sa S n j i = if j = 22 ∧ i = 0 then nI n else if j = 22 ∧ i = 2 then (-1) else if j = 21 ∧ i < zn S 22 0 then (-1) else if (j = 7 ∨ j = 8) ∧ i < 16 then nI 0 else if j = 2 ∧ i < 4 then S 3 i else if j = 9 ∧ i < 32 then S 17 i else if j = 10 ∧ i < 32 then S 18 i else if (j = 11 ∨ j = 12 ∨ j = 13 ∨ j = 14) ∧ i < 32 then nI 0 else if i < 32 ∧ zrdy S (zown (zn S 22 0) i) then (if j = 19 then S 19 i + S 13 i else if j = 20 then S 20 i + S 14 i else S j i) else S j i := fun j i => by
    have ho := zOK.own hO i
    unfold sp_sa sp_sa5 sp_sa4 sp_sa3
    simp only [zU_at, up_at, tca_at, cp_at, z_at, tz_at, sa2_at, ssa1_at S _ _ (zn S 22 0) hW.2]
    clear ra rb rc rd d1 d2 d3 d4 d5 d6 d7 d8 d9 d10 I
    grind (splits := 80)
  have eM : ∀ j i, mo_sa M n j i = if j = 22 ∧ i = 0 then nI n else if j = 22 ∧ i = 2 then (-1) else if j = 21 ∧ i < 4 then (-1) else if (j = 7 ∨ j = 8) ∧ i < 16 then nI 0 else if j = 4 ∧ i < 4 then nI 0 else if j = 2 ∧ i < 4 then M 3 i else if j = 9 ∧ i < 32 then M 17 i else if j = 10 ∧ i < 32 then M 18 i else if (j = 11 ∨ j = 12) ∧ i < 32 then nI 0 else mo_sa1 M (zn M 22 0) j i := fun j i => by
    have e3 : ∀ i, mo_sa1 M (zn M 22 0) 3 i = M 3 i := fun i => by rw [msa1_at _ _ _ _ (by omega)]; grind
    have e17 : ∀ i, mo_sa1 M (zn M 22 0) 17 i = M 17 i := fun i => by rw [msa1_at _ _ _ _ (by omega)]; grind
    have e18 : ∀ i, mo_sa1 M (zn M 22 0) 18 i = M 18 i := fun i => by rw [msa1_at _ _ _ _ (by omega)]; grind
    unfold mo_sa mo_cpy mo_clr mo_sa2
    simp only [zU_at, up_at, cp_at, z_at, lift_at, uns_at, ← e3, ← e17, ← e18]
    clear ra rb rc rd d1 d2 d3 d4 d5 d6 d7 d8 d9 d10 I e3 e17 e18 eS
    grind (splits := 80)
  have eM1 := fun j i => msa1_at M j i (zn M 22 0) (by omega)
  have hmay : ∀ w, w < zn S 22 0 → (zmay M w ↔ zrdy S w) := fun w hw => iv_may I hw
  have g8 : ∀ c, sp_sa S n 8 c = nI 0 := fun c => by
    have a := zOK.b8 hO c
    have b := d8 c
    rw [eS]
    grind
  have g21 : ∀ w, w < 4 → sp_sa S n 21 w = (-1) := fun w hw => by
    have a := d5 w hw
    rw [eS]
    grind
  have g22 : sp_sa S n 22 2 = (-1) := by rw [eS]; grind
  have g3 : sp_sa S n 22 3 = S 22 3 := by rw [eS]; grind
  have g1 : sp_sa S n 22 1 = S 22 1 := by rw [eS]; grind
  have z1 : zn (sp_sa S n) 22 1 = zn S 22 1 := congrArg Int32.toNatClampNeg g1
  have z0 : zn (sp_sa S n) 22 0 = n := by
    show (sp_sa S n 22 0).toNatClampNeg = n
    rw [eS, if_pos ⟨rfl, rfl⟩, nI_cl (by omega)]
  refine ⟨zOK_sa hO h1 h4, zOK_msa I.2.1 h1 h4, ⟨fun j j1 j2 j3 j4 => ?_, fun i hi => ?_, fun hu => absurd g22 hu, fun key hk => ?_⟩, ⟨?_, Or.inl g22, ?_, fun hu => absurd g22 hu, fun w hw => Or.inl (g21 w hw), fun j hj => ?_, fun _ => g8, fun c hc => ?_, fun hu => absurd g22 hu, fun i => ?_⟩⟩
  · funext i
    have e := congrFun (ra j j1 j2 j3 j4) i
    have f := g8 i
    have f21 := g21 i
    by_cases j8 : j = 8
    · subst j8
      have a := zOK.b8 hO i
      have b : S 8 i = nI 1 → i < 16 := fun z => (d8 i z).1
      have i0 : i < 16 ∨ S 8 i = nI 0 := a.elim Or.inr (fun z => Or.inl (b z))
      rw [f, eM, eM1, e]
      clear ra rb rc rd d1 d2 d3 d4 d5 d6 d7 d8 d9 d10 I g8 g21 eS eM eM1 hmay f21 f b
      grind (splits := 40)
    · by_cases j21 : j = 21
      · subst j21
        by_cases i4 : i < 4
        · rw [f21 i4, eM, if_neg (by omega), if_neg (by omega), if_pos ⟨rfl, i4⟩]
        · have iW : ¬ i < zn S 22 0 := by omega
          rw [eM, eM1, eS, hW0]
          clear ra rb rc rd d1 d2 d3 d4 d5 d6 d7 d8 d9 d10 I g8 g21 eS eM eM1 hmay f21 f
          grind (splits := 40)
      · have ho := zOK.own hO i
        have hm := hmay _ ho.1
        have e13 := (rd i)
        have r3 := congrFun (ra 3 (by decide) (by decide) (by decide) (by decide)) i
        have r17 := congrFun (ra 17 (by decide) (by decide) (by decide) (by decide)) i
        have r18 := congrFun (ra 18 (by decide) (by decide) (by decide) (by decide)) i
        have r19 := congrFun (ra 19 (by decide) (by decide) (by decide) (by decide)) i
        have r20 := congrFun (ra 20 (by decide) (by decide) (by decide) (by decide)) i
        rw [eM, eM1, eS, hW0]
        have hz : zrdy S (zown (zn S 22 0) i) → ¬ S 21 (zown (zn S 22 0) i) = (-1) := fun z => z.1
        clear ra rb rc rd d1 d2 d3 d4 d5 d6 d7 d8 d9 d10 I g8 g21 eS eM eM1 hmay
        by_cases hr : zrdy S (zown (zn S 22 0) i)
        · have hr2 := hm.mpr hr
          grind (splits := 60)
        · have hr2 : ¬ zmay M (zown (zn S 22 0) i) := fun z => hr (hm.mp z)
          grind (splits := 60)
  · have e := rb i hi
    rw [eM, eM1, eS]
    clear ra rb rc rd d1 d2 d3 d4 d5 d6 d7 d8 d9 d10 I g8 g21 eS eM eM1 hmay
    grind
  · have ho := zown_lt (key := key) h1 h4
    rw [z0]
    refine ⟨fun hz => absurd (g21 _ (by omega)) hz, fun _ => ?_⟩
    rw [eS, eS]
    grind
  · rw [z1, g1]; exact d1
  · rw [z1, g3]; exact d3
  · have := d6 j hj
    rw [eS]
    grind
  · rw [g8 c] at hc
    exact absurd hc (by decide)
  · have := d10 i
    rw [z1, eS]
    grind
theorem iv_cr {k : Nat} {S M : zS} (I : IV k S M) : sp_cr S = mo_cr M := by
  have h := (iv_sa I (zOK.w I.1).2.1 (zOK.w I.1).2.2).s22 3 (by decide)
  unfold sp_cr mo_cr
  rw [I.W, h]
theorem mg_eq (V W : Nat) : ∀ g, sp_mg V W g = mo_mg V W g
  | 0 => rfl
  | g + 1 => by
    unfold sp_mg mo_mg
    rw [← mg_eq V W g]
    split <;> rfl
theorem gs_eq : ∀ W, 1 ≤ W → W ≤ 4 → ∀ w, w < W → 10 * sp_gf W w 8 + sp_go W w 8 = mo_gs W w 8 := by
  intro W h1 h4 w hw
  rcases (show W = 1 ∨ W = 2 ∨ W = 3 ∨ W = 4 by omega) with rfl | rfl | rfl | rfl
  · rcases (show w = 0 by omega) with rfl; decide
  · rcases (show w = 0 ∨ w = 1 by omega) with rfl | rfl <;> decide
  · rcases (show w = 0 ∨ w = 1 ∨ w = 2 by omega) with rfl | rfl | rfl <;> decide
  · rcases (show w = 0 ∨ w = 1 ∨ w = 2 ∨ w = 3 by omega) with rfl | rfl | rfl | rfl <;> decide
theorem iv_op {k : Nat} {S M : zS} (I : IV k S M) (w : Nat) : ∀ j, sp_op S w j = mo_op M w j
  | 0 => rfl
  | j + 1 => by
    unfold sp_op mo_op
    rw [iv_op I w j, I.W, I.sh 11 (by decide)]
    split
    · rfl
    · rw [nI_0, Int32.add_zero]
theorem iv_cm {k : Nat} {S M : zS} (I : IV k S M) : ∀ j, sp_cm S j = sp_cm M j
  | 0 => rfl
  | j + 1 => by
    unfold sp_cm
    rw [iv_cm I j, I.sh 19 (by decide)]
theorem mo_ek_add (S : zS) (key p : Nat) (a : Int32) : ∀ o, mo_ek S key p a o = a + sp_ek S key p o
  | 0 => by
    show a = a + nI 0
    rw [nI_0, Int32.add_zero]
  | o + 1 => by
    unfold mo_ek sp_ek sp_ae
    rw [mo_ek_add S key p a o]
    split
    · rw [Int32.add_assoc]
    · rw [nI_0, Int32.add_zero]
theorem iv_ek {k : Nat} {S M : zS} (I : IV k S M) (key p : Nat) : ∀ o, sp_ek S key p o = sp_ek M key p o
  | 0 => rfl
  | o + 1 => by
    unfold sp_ek
    rw [iv_ek I key p o, I.zn 1 _ (by decide)]
theorem iv_rs {k : Nat} {S M : zS} (I : IV k S M) (key : Nat) : ∀ j, sp_rs S key j = mo_rs M key j
  | 0 => rfl
  | j + 1 => by
    unfold sp_rs mo_rs
    rw [mo_ek_add, iv_rs I key j, iv_ek I key j, I.zn 2 _ (by decide)]
theorem mo_sk_eq (g : Nat → Int32) (key b : Nat) (a : Int32) : ∀ j, mo_sk g key b a j = sp_sk g key b j a
  | 0 => rfl
  | j + 1 => by
    unfold mo_sk sp_sk sp_add
    rw [mo_sk_eq g key b a j]
    split
    · rfl
    · rw [nI_0, Int32.add_zero]
theorem iv_sc {k : Nat} {S M : zS} (I : IV k S M) (key : Nat) : ∀ c, sp_sc S key c = mo_sc M key c
  | 0 => rfl
  | c + 1 => by
    unfold sp_sc mo_sc
    rw [mo_sk_eq, iv_sc I key c, I.sh 6 (by decide), I.zn 7 _ (by decide)]
theorem iv_neg {k : Nat} {S M : zS} (I : IV k S M) (h : ¬ S 22 2 = (-1)) : (-(S 22 2)).toInt ≤ 31100 := by
  obtain ⟨⟨h1, -⟩, h2, -⟩ := I.2.2.2
  rcases h2 with h2 | ⟨h2, h3⟩
  · exact absurd h2 h
  · have h4 : zn S 22 1 < 2 ^ 31 := by
      unfold zn Int32.toNatClampNeg
      have := (S 22 1).toInt_lt
      omega
    rw [h2, h1, Int32.toInt_neg, nI_toInt h4]
    rw [Int.bmod_eq_of_le (by omega) (by omega)]
    omega
/-! the word of what was thrown stays -/
theorem t4_app (M : zS) (p : Nat) (x : Int32) : sp_app M p x 22 4 = M 22 4 := rfl
theorem t4_read (M : zS) (p : Nat) : sp_read M p 22 4 = M 22 4 := rfl
theorem t4_send (M : zS) (p : Nat) : mo_send M p 22 4 = M 22 4 := w2_sb _ _ _ _
theorem t4_tf (M : zS) (p w : Nat) : mo_tf M p w 22 4 = M 22 4 := by
  have h1 : ∀ T : zS, mo_cp T 22 4 = T 22 4 := fun T => by
    unfold mo_cp
    split
    · rw [mcc_at]; grind
    · rfl
  have h2 : ∀ (T : zS) (w : Nat), mo_al1 T w 22 4 = T 22 4 := fun T w => by
    unfold mo_al1
    simp only [zU_at, ak_at]
    grind
  have h3 : ∀ (T : zS) (w : Nat), mo_al T w 22 4 = T 22 4 := fun T w => by
    unfold mo_al
    split
    · rw [h1, h2]
    · rfl
  unfold mo_tf
  split
  · rw [te_at, rem_at]; grind
  · split
    · rw [h3, blk_at, rem_at]; grind
    · rw [rem_at]; grind
theorem t4_ps (M : zS) : ∀ k : Nat, mo_ps M k 22 4 = M 22 4
  | 0 => rfl
  | k + 1 => by
    have h1 : ∀ (T : zS) (i : Nat), mo_p1 T i 22 4 = T 22 4 := fun T i => by
      unfold mo_p1
      split
      · rw [t4_read]
      · rfl
    have h2 : ∀ (T : zS) (i : Nat), mo_p2 T i 22 4 = T 22 4 := fun T i => by
      unfold mo_p2
      split
      · rw [t4_tf]
      · rfl
    show mo_p2 (mo_p1 (mo_ps M k) (k % mo_L M)) (k % mo_L M) 22 4 = M 22 4
    rw [h2, h1, t4_ps M k]
theorem t4_com (M : zS) (w : Nat) : mo_com M w 22 4 = M 22 4 := by
  rw [mcom_at]
  grind
theorem t4_beg (M : zS) : mo_beg M 22 4 = M 22 4 := by
  show upd (upd (M 22) 1 (M 22 1 + nI 1)) 2 (M 22 1 + nI 1) 4 = M 22 4
  rw [pk_un (by decide), pk_un (by decide)]
theorem t4_ab (M : zS) : mo_ab M 22 4 = M 22 4 := by
  unfold mo_ab
  rw [sa2_at, lift_at, uns_at, ab1_at]
  grind
theorem t4_sa (M : zS) (n : Nat) : mo_sa M n 22 4 = M 22 4 := by
  have h1 : ∀ k, mo_sa1 M k 22 4 = M 22 4 := by
    intro k
    induction k with
    | zero => rfl
    | succ k ih =>
      unfold mo_sa1
      split
      · rw [t4_com, ih]
      · exact ih
  unfold mo_sa mo_cpy mo_clr mo_sa2
  simp only [zU_at, up_at, lift_at, uns_at, h1]
  grind
