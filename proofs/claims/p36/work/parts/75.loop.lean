set_option maxHeartbeats 8000000 in
set_option maxRecDepth 100000 in
/-- the law's loop, behind k acts -/
theorem law_loop {pg : Program} {l : Launch} {e : Env} {s : State} {m : MethodId} {below : List Frame} {meth : Method} {c : Code} {b L : Nat} {xs : Nat → Int32} {D : va_G} {cI cZ : ClassId} {ad bd : Nat → Nat} {Ba Bb : Nat → Prop} (C0 : lw_At pg s m meth c b L xs) (hfl : l.stackTraces = false) (X0 : zLC D cI cZ ad bd Ba Bb s) (hL : L ≤ 260) :
    ∀ (nf k : Nat), k ≤ 140 → 140 - k < nf → ∀ (S : zS) (H : Heap) (locs : List Loc), vJ k S → zL D cI cZ ad bd s H locs S S → ∀ ls : Array Slot, lv_has ls 6 [(0, .ref b), (1, .ref (ad 0)), (2, .ref (bd 0)), (3, .int (nI k))] → W pg l e room_1 s m #[Value.ref b] below meth c H locs (64 + k) (1686 + 6 * k) (lw_Z below #[Value.ref b] s) (F0 m 18 ls []) := by
  intro nf
  induction nf with
  | zero => intro k hk hn; exact absurd hn (Nat.not_lt_zero _)
  | succ nf ih =>
    intro k hk hn S H locs J hR ls hl
    obtain ⟨hx, hb, hr, hml, hown, hts, hX, hbl, hlocks, hgv⟩ := id C0
    have hb : c.code = cL_law := hb
    have hown : s.vm.findClass RL = some m.cls := hown
    have htl := fun w h => hts w (wsL_law_in w h)
    have hO := vJ_ok J
    have hLC := X0
    obtain ⟨hK, hE, hGa, hGb, hab, hBa, hBb⟩ := X0
    refine lv_iload_n hx hb dL_law_18 rfl (lv_at hl 3 rfl) ?_
    refine lv_sipush (v := nI 140) hx hb dL_law_19 (by decide) ?_
    refine z_ge_n (tgt := 109) hx hb dL_law_22 (by decide) (by omega) (by omega) (fun h1 => ?_) (fun h1 => ?_)
    · refine lv_aload_n hx hb dL_law_109 rfl (lv_at hl 1 rfl) ?_
      refine lv_aload_n hx hb dL_law_110 rfl (lv_at hl 2 rfl) ?_
      refine z_l12 (As := [.ref (ad 0), .ref (bd 0)]) (rest := []) ⟨hx, hb, hml, hown, htl⟩ hLC hR (c_L_areAlike rfl hab hGa hGb S hO) (va_cwS 2 htl gL_law_L_areAlike rfl rfl rfl (by decide +kernel) ⟨Nat.le_of_ble_eq_true rfl, Nat.le_of_ble_eq_true rfl⟩) rfl hl rfl (Nat.le_of_ble_eq_true rfl) (by show 64 + k + 0 ≤ 210 ∧ 1686 + 6 * k + 0 ≤ 2822; omega) dL_law_111 (fun r S1 H locs hp hR => ?_)
      obtain ⟨hr1, hs1⟩ := hp
      rw [hs1] at hR
      rw [hr1]
      refine z_if_eq_n (tgt := 135) hx hb dL_law_114 (by decide) (by omega) (fun h => absurd h (by decide)) (fun _ => ?_)
      refine lv_aload_n hx hb dL_law_117 rfl (lv_at hl 1 rfl) ?_
      refine z_l1 (As := [.ref (ad 0)]) (rest := []) ⟨hx, hb, hml, hown, htl⟩ hLC hR (c_L_areSumsSo hGa hfl S k (by omega) J) (va_cwS 1 htl gL_law_L_areSumsSo rfl rfl rfl (by decide +kernel) ⟨Nat.le_of_ble_eq_true rfl, Nat.le_of_ble_eq_true rfl⟩) rfl hl rfl (Nat.le_of_ble_eq_true rfl) (by show 64 + k + 0 + 0 ≤ 210 ∧ 1686 + 6 * k + 0 + 0 ≤ 2822; omega) dL_law_118 (fun r S2 H locs hp hR => ?_)
      obtain ⟨hr1, hs1⟩ := hp
      rw [hs1] at hR
      rw [hr1]
      refine z_if_eq_n (tgt := 135) hx hb dL_law_121 (by decide) (by omega) (fun h => absurd h (by decide)) (fun _ => ?_)
      refine lv_aload_n hx hb dL_law_124 rfl (lv_at hl 1 rfl) ?_
      refine z_l1 (As := [.ref (ad 0)]) (rest := []) ⟨hx, hb, hml, hown, htl⟩ hLC hR (c_L_areChannelsSo hGa hfl S k (by omega) J) (va_cwS 1 htl gL_law_L_areChannelsSo rfl rfl rfl (by decide +kernel) ⟨Nat.le_of_ble_eq_true rfl, Nat.le_of_ble_eq_true rfl⟩) rfl hl rfl (Nat.le_of_ble_eq_true rfl) (by show 64 + k + 0 + 0 + 0 ≤ 210 ∧ 1686 + 6 * k + 0 + 0 + 0 ≤ 2822; omega) dL_law_125 (fun r S3 H locs hp hR => ?_)
      obtain ⟨hr1, hs1⟩ := hp
      rw [hs1] at hR
      rw [hr1]
      refine z_if_eq_n (tgt := 135) hx hb dL_law_128 (by decide) (by omega) (fun h => absurd h (by decide)) (fun _ => ?_)
      refine lv_iconst (v := (nI 1)) hx hb dL_law_131 (by decide) ?_
      refine lv_goto (tgt := 136) hx hb dL_law_132 (by decide) ?_
      refine va_forget (fun q hq => hR.2.2.2.2 q hq) ?_
      refine W.widen (k := 210) (n := 2822) (by omega) (by omega) ?_
      exact lw_ret hx hb hr hlocks dL_law_136
    · have K103 : ∀ (S1 : zS) (H1 : Heap) (locs1 : List Loc) (ls1 : Array Slot), vJ (k + 1) S1 → zL D cI cZ ad bd s H1 locs1 S1 S1 → lv_has ls1 6 [(0, .ref b), (1, .ref (ad 0)), (2, .ref (bd 0)), (3, .int (nI k))] → W pg l e room_1 s m #[Value.ref b] below meth c H1 locs1 (64 + (k + 1)) (1686 + 6 * (k + 1)) (lw_Z below #[Value.ref b] s) (F0 m 103 ls1 []) := by
        intro S1 H1 locs1 ls1 J1 hR1 hl1
        refine lv_iinc (v := nI (k + 1)) (lv' := [(3, .int (nI (k + 1))), (0, .ref b), (1, .ref (ad 0)), (2, .ref (bd 0))]) hx hb dL_law_103 hl1 (k := 3) rfl (z_inc _) (by decide) rfl (fun ls2 hl2 => ?_)
        refine lv_goto (tgt := 18) hx hb dL_law_106 (by decide) ?_
        exact ih (k + 1) (by omega) (by omega) S1 H1 locs1 J1 hR1 ls2 (lv_sub hl2 [1, 2, 3, 0] rfl)
      have K87 : ∀ (S1 : zS) (H1 : Heap) (locs1 : List Loc) (ls1 : Array Slot), vJ (k + 1) S1 → zL D cI cZ ad bd s H1 locs1 S1 S1 → lv_has ls1 6 [(0, .ref b), (1, .ref (ad 0)), (2, .ref (bd 0)), (3, .int (nI k))] → W pg l e room_1 s m #[Value.ref b] below meth c H1 locs1 (64 + (k + 1)) (1686 + 6 * (k + 1)) (lw_Z below #[Value.ref b] s) (F0 m 87 ls1 []) := by
        intro S1 H1 locs1 ls1 J1 hR1 hl1
        refine lv_iload_n hx hb dL_law_87 rfl (lv_at hl1 3 rfl) ?_
        refine lv_iconst (v := (nI 3)) hx hb dL_law_88 (by decide) ?_
        refine z_irem_n hx hb dL_law_89 (by omega) (by omega) (by omega) ?_
        refine lv_iconst (v := (nI 2)) hx hb dL_law_90 (by decide) ?_
        refine z_ne_n (tgt := 103) hx hb dL_law_91 (by decide) (by omega) (by omega) (fun _ => K103 S1 H1 locs1 ls1 J1 hR1 hl1) (fun _ => ?_)
        refine lv_aload_n hx hb dL_law_94 rfl (lv_at hl1 1 rfl) ?_
        refine z_l1 (As := [.ref (ad 0)]) (rest := []) ⟨hx, hb, hml, hown, htl⟩ hLC hR1 (c_L_areChannelsSo hGa hfl S1 (k + 1) (by omega) J1) (va_cwS 1 htl gL_law_L_areChannelsSo rfl rfl rfl (by decide +kernel) ⟨Nat.le_of_ble_eq_true rfl, Nat.le_of_ble_eq_true rfl⟩) rfl hl1 rfl (Nat.le_of_ble_eq_true rfl) (by show 64 + (k + 1) + 0 ≤ 210 ∧ 1686 + 6 * (k + 1) + 0 ≤ 2822; omega) dL_law_95 (fun r S2 H2 locs2 hp hR2 => ?_)
        obtain ⟨hr1, hs1⟩ := hp
        rw [hs1] at hR2
        rw [hr1]
        refine z_if_ne_n (tgt := 103) hx hb dL_law_98 (by decide) (by omega) (fun _ => ?_) (fun h => absurd h (by decide))
        exact K103 S1 H2 locs2 ls1 J1 hR2 hl1
      have K73 : ∀ (S1 : zS) (H1 : Heap) (locs1 : List Loc) (ls1 : Array Slot), vJ (k + 1) S1 → zL D cI cZ ad bd s H1 locs1 S1 S1 → lv_has ls1 6 [(0, .ref b), (1, .ref (ad 0)), (2, .ref (bd 0)), (3, .int (nI k))] → W pg l e room_1 s m #[Value.ref b] below meth c H1 locs1 (64 + (k + 1)) (1686 + 6 * (k + 1)) (lw_Z below #[Value.ref b] s) (F0 m 73 ls1 []) := by
        intro S1 H1 locs1 ls1 J1 hR1 hl1
        refine lv_iload_n hx hb dL_law_73 rfl (lv_at hl1 3 rfl) ?_
        refine lv_iconst (v := (nI 3)) hx hb dL_law_74 (by decide) ?_
        refine z_irem_n hx hb dL_law_75 (by omega) (by omega) (by omega) ?_
        refine lv_iconst (v := (nI 1)) hx hb dL_law_76 (by decide) ?_
        refine z_ne_n (tgt := 87) hx hb dL_law_77 (by decide) (by omega) (by omega) (fun _ => K87 S1 H1 locs1 ls1 J1 hR1 hl1) (fun _ => ?_)
        refine lv_aload_n hx hb dL_law_80 rfl (lv_at hl1 1 rfl) ?_
        refine z_l1 (As := [.ref (ad 0)]) (rest := []) ⟨hx, hb, hml, hown, htl⟩ hLC hR1 (c_L_areSumsSo hGa hfl S1 (k + 1) (by omega) J1) (va_cwS 1 htl gL_law_L_areSumsSo rfl rfl rfl (by decide +kernel) ⟨Nat.le_of_ble_eq_true rfl, Nat.le_of_ble_eq_true rfl⟩) rfl hl1 rfl (Nat.le_of_ble_eq_true rfl) (by show 64 + (k + 1) + 0 ≤ 210 ∧ 1686 + 6 * (k + 1) + 0 ≤ 2822; omega) dL_law_81 (fun r S2 H2 locs2 hp hR2 => ?_)
        obtain ⟨hr1, hs1⟩ := hp
        rw [hs1] at hR2
        rw [hr1]
        refine z_if_eq_n (tgt := 101) hx hb dL_law_84 (by decide) (by omega) (fun h => absurd h (by decide)) (fun _ => ?_)
        exact K87 S1 H2 locs2 ls1 J1 hR2 hl1
      have K58 : ∀ (S1 : zS) (H1 : Heap) (locs1 : List Loc) (ls1 : Array Slot), vJ (k + 1) S1 → zL D cI cZ ad bd s H1 locs1 S1 S1 → lv_has ls1 6 [(0, .ref b), (1, .ref (ad 0)), (2, .ref (bd 0)), (3, .int (nI k))] → W pg l e room_1 s m #[Value.ref b] below meth c H1 locs1 (64 + (k + 1)) (1686 + 6 * (k + 1)) (lw_Z below #[Value.ref b] s) (F0 m 58 ls1 []) := by
        intro S1 H1 locs1 ls1 J1 hR1 hl1
        refine lv_iload_n hx hb dL_law_58 rfl (lv_at hl1 3 rfl) ?_
        refine lv_iconst (v := (nI 4)) hx hb dL_law_59 (by decide) ?_
        refine z_irem_n hx hb dL_law_60 (by omega) (by omega) (by omega) ?_
        refine lv_iconst (v := (nI 3)) hx hb dL_law_61 (by decide) ?_
        refine z_ne_n (tgt := 73) hx hb dL_law_62 (by decide) (by omega) (by omega) (fun _ => K73 S1 H1 locs1 ls1 J1 hR1 hl1) (fun _ => ?_)
        refine lv_aload_n hx hb dL_law_65 rfl (lv_at hl1 1 rfl) ?_
        refine lv_aload_n hx hb dL_law_66 rfl (lv_at hl1 2 rfl) ?_
        refine z_l12 (As := [.ref (ad 0), .ref (bd 0)]) (rest := []) ⟨hx, hb, hml, hown, htl⟩ hLC hR1 (c_L_areAlike rfl hab hGa hGb S1 (vJ_ok J1)) (va_cwS 2 htl gL_law_L_areAlike rfl rfl rfl (by decide +kernel) ⟨Nat.le_of_ble_eq_true rfl, Nat.le_of_ble_eq_true rfl⟩) rfl hl1 rfl (Nat.le_of_ble_eq_true rfl) (by show 64 + (k + 1) + 0 ≤ 210 ∧ 1686 + 6 * (k + 1) + 0 ≤ 2822; omega) dL_law_67 (fun r S2 H2 locs2 hp hR2 => ?_)
        obtain ⟨hr1, hs1⟩ := hp
        rw [hs1] at hR2
        rw [hr1]
        refine z_if_eq_n (tgt := 101) hx hb dL_law_70 (by decide) (by omega) (fun h => absurd h (by decide)) (fun _ => ?_)
        exact K73 S1 H2 locs2 ls1 J1 hR2 hl1
      refine lv_aload_n hx hb dL_law_25 rfl (lv_at hl 0 rfl) ?_
      refine lv_iload_n hx hb dL_law_26 rfl (lv_at hl 3 rfl) ?_
      refine z_lcell (rest := []) ⟨hx, hb, hml, hown, htl⟩ hX hbl hR hL (show k < 140 by omega) (va_cwS 2 htl gL_law_L_cell rfl rfl rfl (by decide +kernel) ⟨Nat.le_of_ble_eq_true rfl, Nat.le_of_ble_eq_true rfl⟩) hl (Nat.le_of_ble_eq_true rfl) (by show 64 + k + 0 ≤ 210 ∧ 1686 + 6 * k + 0 ≤ 2822; omega) dL_law_27 (fun v H locs hR => ?_)
      refine lv_istore (lv' := [(4, .int v), (0, .ref b), (1, .ref (ad 0)), (2, .ref (bd 0)), (3, .int (nI k))]) hx hb dL_law_30 hl (by decide) rfl (fun ls hl => ?_)
      refine lv_aload_n hx hb dL_law_32 rfl (lv_at hl 2 rfl) ?_
      refine lv_iload hx hb dL_law_33 (lv_at hl 0 rfl) ?_
      rcases act_all (show k ≤ 1900 by omega) J v with hT | ⟨r0, S0, hT, hne, J0⟩
      · refine z_l1 (As := [.ref (ad 0), .int v]) (rest := []) ⟨hx, hb, hml, hown, htl⟩ hLC hR (hT l D cI cZ ad Ba hGa hfl) (va_cwS 2 htl gL_law_L_act rfl rfl rfl (by decide +kernel) ⟨Nat.le_of_ble_eq_true rfl, Nat.le_of_ble_eq_true rfl⟩) rfl hl rfl (Nat.le_of_ble_eq_true rfl) (by show 64 + k + 1 ≤ 210 ∧ 1686 + 6 * k + 6 ≤ 2822; omega) dL_law_35 (fun r S1 H locs hp hR => ?_)
        obtain ⟨hr1, hs1⟩ := hp
        rw [hs1] at hR
        rw [hr1]
        refine lv_istore (lv' := [(5, .int (-99999)), (4, .int v), (0, .ref b), (1, .ref (ad 0)), (2, .ref (bd 0)), (3, .int (nI k))]) hx hb dL_law_38 hl (by decide) rfl (fun ls hl => ?_)
        refine lv_iload hx hb dL_law_40 (lv_at hl 0 rfl) ?_
        refine lv_ldc (own := RL) (v := (-99999)) hx hb hown (hts (.constant RL 16 (-99999)) (by decide +kernel)) dL_law_42 ?_
        refine lv_icmp_eq (tgt := 58) hx hb dL_law_44 (by decide) (fun _ => ?_) (fun h => absurd rfl h)
        refine W.widen (k := 64 + (k + 1)) (n := 1686 + 6 * (k + 1)) (by omega) (by omega) ?_
        exact K58 S H locs ls (vJ_mono (Nat.le_succ k) J) hR (lv_sub hl [2, 3, 4, 5] rfl)
      · refine z_l1 (As := [.ref (ad 0), .int v]) (rest := []) ⟨hx, hb, hml, hown, htl⟩ hLC hR (hT l D cI cZ ad Ba hGa hfl) (va_cwS 2 htl gL_law_L_act rfl rfl rfl (by decide +kernel) ⟨Nat.le_of_ble_eq_true rfl, Nat.le_of_ble_eq_true rfl⟩) rfl hl rfl (Nat.le_of_ble_eq_true rfl) (by show 64 + k + 0 ≤ 210 ∧ 1686 + 6 * k + 0 ≤ 2822; omega) dL_law_35 (fun r S1 H locs hp hR => ?_)
        obtain ⟨hr1, hs1⟩ := hp
        rw [hs1] at hR
        rw [hr1]
        refine lv_istore (lv' := [(5, .int r0), (4, .int v), (0, .ref b), (1, .ref (ad 0)), (2, .ref (bd 0)), (3, .int (nI k))]) hx hb dL_law_38 hl (by decide) rfl (fun ls hl => ?_)
        refine lv_iload hx hb dL_law_40 (lv_at hl 0 rfl) ?_
        refine lv_ldc (own := RL) (v := (-99999)) hx hb hown (hts (.constant RL 16 (-99999)) (by decide +kernel)) dL_law_42 ?_
        refine lv_icmp_eq (tgt := 58) hx hb dL_law_44 (by decide) (fun h => absurd h hne) (fun _ => ?_)
        refine lv_aload_n hx hb dL_law_47 rfl (lv_at hl 4 rfl) ?_
        refine lv_iload hx hb dL_law_48 (lv_at hl 1 rfl) ?_
        refine z_l2 (As := [.ref (bd 0), .int v]) (rest := []) ⟨hx, hb, hml, hown, htl⟩ hLC hR (hT l D cI cZ bd Bb hGb hfl) (va_cwS 2 htl gL_law_L_act rfl rfl rfl (by decide +kernel) ⟨Nat.le_of_ble_eq_true rfl, Nat.le_of_ble_eq_true rfl⟩) rfl hl rfl (Nat.le_of_ble_eq_true rfl) (by show 64 + k + 0 + 0 ≤ 210 ∧ 1686 + 6 * k + 0 + 0 ≤ 2822; omega) dL_law_50 (fun r1 T1 H locs hp hR => ?_)
        obtain ⟨hr1, hs1⟩ := hp
        rw [hs1] at hR
        rw [hr1]
        refine lv_iload hx hb dL_law_53 (lv_at hl 0 rfl) ?_
        refine lv_icmp_ne (tgt := 101) hx hb dL_law_55 (by decide) (fun h => absurd rfl h) (fun _ => ?_)
        refine W.widen (k := 64 + (k + 1)) (n := 1686 + 6 * (k + 1)) (by omega) (by omega) ?_
        exact K58 S0 H locs ls J0 hR (lv_sub hl [2, 3, 4, 5] rfl)
