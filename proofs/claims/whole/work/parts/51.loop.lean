theorem z_exit_lt {L i : Nat} (hL : L ≤ 2048) (hi : i ≤ 4096) : (nI L - nI 4 < nI i) ↔ L < i + 4 := by
  rw [Int32.lt_iff_toInt_lt, pk_sub_toInt (by omega) (by omega), nI_toInt (by omega)]
  omega
set_option maxHeartbeats 8000000 in
set_option maxRecDepth 100000 in
/-- the law's loop, behind k calls -/
theorem law_loop {pg : Program} {l : Launch} {e : Env} {s : State} {m : MethodId} {below : List Frame} {meth : Method} {c : Code} {b L : Nat} {xs : Nat → Int32} {D : va_G} {cI cZ cJ : ClassId} {adx adm : Nat → Nat} {oo : Nat} {Bx Bm : Nat → Prop} (C0 : lw_At pg s m meth c b L xs) (hfl : l.stackTraces = false) (X0 : zLC D cI cZ cJ adx adm oo Bx Bm s) (hL : L ≤ 2048) :
    ∀ (nf k : Nat), 4 * k ≤ L → L - 4 * k < nf → ∀ (S M : zS) (g : Nat → Int64) (H : Heap) (locs : List Loc), IV k S M → zL D cI cZ cJ adx adm oo s H locs S M g → ∀ ls : Array Slot, lv_has ls 7 [(0, .ref (b)), (1, .ref (adx 0)), (2, .ref (adm 0)), (3, .ref (oo)), (4, .int (nI (4 * k)))] → W pg l e room_1 s m #[Value.ref b] below meth c H locs (56 + k) (1679 + 6 * k) (lw_Z below #[Value.ref b] s) (F0 m 23 ls []) := by
  intro nf
  induction nf with
  | zero => intro k hk hn; exact absurd hn (Nat.not_lt_zero _)
  | succ nf ih =>
    intro k hk hn S M g H locs I hR ls hl
    obtain ⟨hx, hb, hr, hml, hown, hts, hX, hbl, hlocks, hgv⟩ := id C0
    have hb : c.code = cL_law := hb
    refine lv_iload hx hb dL_law_23 (lv_at hl 4 rfl) ?_
    refine lv_aload_n hx hb dL_law_25 rfl (lv_at hl 0 rfl) ?_
    refine va_slen (A := zLA s) hx hb hX hbl (Nat.not_le.mpr hbl) hR.2.2.2 dL_law_26 ?_
    refine lv_iconst (v := (nI 4)) hx hb dL_law_27 (by decide) ?_
    refine lv_isub hx hb dL_law_28 ?_
    refine lv_icmp_gt (tgt := 1909) hx hb dL_law_29 (by decide) (fun h1 => ?_) (fun h1 => ?_)
    · refine lv_iconst (v := (nI 1)) hx hb dL_law_1909 (by decide) ?_
      refine va_forget (fun q hq => hR.2.2.2.2.2 q hq) ?_
      refine W.widen (k := 1096) (n := 9967) (by omega) (by omega) ?_
      exact lw_ret hx hb hr hlocks dL_law_1910
    · have hi : 4 * k + 4 ≤ L := Nat.not_lt.mp (fun q => h1 ((z_exit_lt hL (by omega)).mpr q))
      refine lv_aload_n hx hb dL_law_32 rfl (lv_at hl 0 rfl) ?_
      refine lv_iload hx hb dL_law_33 (lv_at hl 4 rfl) ?_
      refine z_sld_n hx hb hX hbl hR dL_law_35 (by omega) hL rfl ?_
      refine lv_bipush (v := (nI 63)) hx hb dL_law_36 (by decide) ?_
      refine lv_iand hx hb dL_law_38 ?_
      obtain ⟨j, hj, ej⟩ := pk_andE (xs (4 * k)) (m := nI 63) 6 (by decide +kernel)
      rw [ej]
      have K : ∀ (S1 M1 : zS) (g1 : Nat → Int64) (H1 : Heap) (locs1 : List Loc) (ls1 : Array Slot), IV (k + 1) S1 M1 → zL D cI cZ cJ adx adm oo s H1 locs1 S1 M1 g1 → lv_has ls1 7 [(0, .ref (b)), (1, .ref (adx 0)), (2, .ref (adm 0)), (3, .ref (oo)), (4, .int (nI (4 * k)))] → W pg l e room_1 s m #[Value.ref b] below meth c H1 locs1 (56 + k + 1) (1679 + 6 * k + 6) (lw_Z below #[Value.ref b] s) (F0 m 1903 ls1 []) := by
        intro S1 M1 g1 H1 locs1 ls1 I1 hR1 hl1
        refine lv_iinc (v := nI (4 * (k + 1))) (lv' := [(4, .int (nI (4 * (k + 1)))), (0, .ref (b)), (1, .ref (adx 0)), (2, .ref (adm 0)), (3, .ref (oo))]) hx hb dL_law_1903 hl1 (k := 4) rfl (nI_add (4 * k) 4) (by decide) rfl (fun ls2 hl2 => ?_)
        refine lv_goto (tgt := 23) hx hb dL_law_1906 (by decide) ?_
        exact ih (k + 1) (by omega) (by omega) S1 M1 g1 H1 locs1 I1 hR1 ls2 (lv_sub hl2 [1, 2, 3, 4, 0] rfl)
      rcases (show j = 0 ∨ j = 1 ∨ j = 2 ∨ j = 3 ∨ j = 4 ∨ j = 5 ∨ j = 6 ∨ j = 7 ∨ j = 8 ∨ j = 9 ∨ j = 10 ∨ j = 11 ∨ j = 12 ∨ j = 13 ∨ j = 14 ∨ j = 15 ∨ j = 16 ∨ j = 17 ∨ j = 18 ∨ j = 19 ∨ j = 20 ∨ j = 21 ∨ j = 22 ∨ j = 23 ∨ j = 24 ∨ j = 25 ∨ j = 26 ∨ j = 27 ∨ j = 28 ∨ j = 29 ∨ j = 30 ∨ j = 31 ∨ j = 32 ∨ 33 ≤ j by omega) with rfl | rfl | rfl | rfl | rfl | rfl | rfl | rfl | rfl | rfl | rfl | rfl | rfl | rfl | rfl | rfl | rfl | rfl | rfl | rfl | rfl | rfl | rfl | rfl | rfl | rfl | rfl | rfl | rfl | rfl | rfl | rfl | rfl | hj2
      · refine lv_tableIn (off := 145) (tgt := 184) hx hb dL_law_39 (by decide) (by decide) (by decide +kernel) (by decide) ?_
        exact lp_append C0 hfl X0 I (by omega) g (4 * k) hi hL (by omega) (by omega) hR hl K
      · refine lv_tableIn (off := 225) (tgt := 264) hx hb dL_law_39 (by decide) (by decide) (by decide +kernel) (by decide) ?_
        exact lp_read C0 hfl X0 I (by omega) g (4 * k) hi hL (by omega) (by omega) hR hl K
      · refine lv_tableIn (off := 281) (tgt := 320) hx hb dL_law_39 (by decide) (by decide) (by decide +kernel) (by decide) ?_
        exact lp_sendBarrier C0 hfl X0 I (by omega) g (4 * k) hi hL (by omega) (by omega) hR hl K
      · refine lv_tableIn (off := 337) (tgt := 376) hx hb dL_law_39 (by decide) (by decide) (by decide +kernel) (by decide) ?_
        exact lp_take C0 hfl X0 I (by omega) g (4 * k) hi hL (by omega) (by omega) hR hl K
      · refine lv_tableIn (off := 405) (tgt := 444) hx hb dL_law_39 (by decide) (by decide) (by decide +kernel) (by decide) ?_
        exact lp_pump C0 hfl X0 I (by omega) g (4 * k) hi hL (by omega) (by omega) hR hl K
      · refine lv_tableIn (off := 461) (tgt := 500) hx hb dL_law_39 (by decide) (by decide) (by decide +kernel) (by decide) ?_
        exact lp_commit C0 hfl X0 I (by omega) g (4 * k) hi hL (by omega) (by omega) hR hl K
      · refine lv_tableIn (off := 517) (tgt := 556) hx hb dL_law_39 (by decide) (by decide) (by decide +kernel) (by decide) ?_
        exact lp_beginCheckpoint C0 hfl X0 I (by omega) g (4 * k) hi hL (by omega) (by omega) hR hl K
      · refine lv_tableIn (off := 561) (tgt := 600) hx hb dL_law_39 (by decide) (by decide) (by decide +kernel) (by decide) ?_
        exact lp_abandon C0 hfl X0 I (by omega) g (4 * k) hi hL (by omega) (by omega) hR hl K
      · refine lv_tableIn (off := 605) (tgt := 644) hx hb dL_law_39 (by decide) (by decide) (by decide +kernel) (by decide) ?_
        exact lp_crash C0 hfl X0 I (by omega) g (4 * k) hi hL (by omega) (by omega) hR hl K
      · refine lv_tableIn (off := 618) (tgt := 657) hx hb dL_law_39 (by decide) (by decide) (by decide +kernel) (by decide) ?_
        exact lp_rescale C0 hfl X0 I (by omega) g (4 * k) hi hL (by omega) (by omega) hR hl K
      · refine lv_tableIn (off := 674) (tgt := 713) hx hb dL_law_39 (by decide) (by decide) (by decide +kernel) (by decide) ?_
        exact lp_events C0 hfl X0 I (by omega) g (4 * k) hi hL (by omega) (by omega) hR hl K
      · refine lv_tableIn (off := 730) (tgt := 769) hx hb dL_law_39 (by decide) (by decide) (by decide +kernel) (by decide) ?_
        exact lp_offset C0 hfl X0 I (by omega) g (4 * k) hi hL (by omega) (by omega) hR hl K
      · refine lv_tableIn (off := 786) (tgt := 825) hx hb dL_law_39 (by decide) (by decide) (by decide +kernel) (by decide) ?_
        exact lp_eventAt C0 hfl X0 I (by omega) g (4 * k) hi hL (by omega) (by omega) hR hl K
      · refine lv_tableIn (off := 854) (tgt := 893) hx hb dL_law_39 (by decide) (by decide) (by decide +kernel) (by decide) ?_
        exact lp_queued C0 hfl X0 I (by omega) g (4 * k) hi hL (by omega) (by omega) hR hl K
      · refine lv_tableIn (off := 922) (tgt := 961) hx hb dL_law_39 (by decide) (by decide) (by decide +kernel) (by decide) ?_
        exact lp_itemAt C0 hfl X0 I (by omega) g (4 * k) hi hL (by omega) (by omega) hR hl K
      · refine lv_tableIn (off := 1002) (tgt := 1041) hx hb dL_law_39 (by decide) (by decide) (by decide +kernel) (by decide) ?_
        exact lp_isBlocked C0 hfl X0 I (by omega) g (4 * k) hi hL (by omega) (by omega) hR hl K
      · refine lv_tableIn (off := 1077) (tgt := 1116) hx hb dL_law_39 (by decide) (by decide) (by decide +kernel) (by decide) ?_
        exact lp_workers C0 hfl X0 I (by omega) g (4 * k) hi hL (by omega) (by omega) hR hl K
      · refine lv_tableIn (off := 1090) (tgt := 1129) hx hb dL_law_39 (by decide) (by decide) (by decide +kernel) (by decide) ?_
        exact lp_workerOf C0 hfl X0 I (by omega) g (4 * k) hi hL (by omega) (by omega) hR hl K
      · refine lv_tableIn (off := 1146) (tgt := 1185) hx hb dL_law_39 (by decide) (by decide) (by decide +kernel) (by decide) ?_
        exact lp_groupsOf C0 hfl X0 I (by omega) g (4 * k) hi hL (by omega) (by omega) hR hl K
      · refine lv_tableIn (off := 1202) (tgt := 1241) hx hb dL_law_39 (by decide) (by decide) (by decide +kernel) (by decide) ?_
        exact lp_count C0 hfl X0 I (by omega) g (4 * k) hi hL (by omega) (by omega) hR hl K
      · refine lv_tableIn (off := 1258) (tgt := 1297) hx hb dL_law_39 (by decide) (by decide) (by decide +kernel) (by decide) ?_
        exact lp_sum C0 hfl X0 I (by omega) g (4 * k) hi hL (by omega) (by omega) hR hl K
      · refine lv_tableIn (off := 1314) (tgt := 1353) hx hb dL_law_39 (by decide) (by decide) (by decide +kernel) (by decide) ?_
        exact lp_open C0 hfl X0 I (by omega) g (4 * k) hi hL (by omega) (by omega) hR hl K
      · refine lv_tableIn (off := 1370) (tgt := 1409) hx hb dL_law_39 (by decide) (by decide) (by decide +kernel) (by decide) ?_
        exact lp_sealed C0 hfl X0 I (by omega) g (4 * k) hi hL (by omega) (by omega) hR hl K
      · refine lv_tableIn (off := 1426) (tgt := 1465) hx hb dL_law_39 (by decide) (by decide) (by decide +kernel) (by decide) ?_
        exact lp_underWay C0 hfl X0 I (by omega) g (4 * k) hi hL (by omega) (by omega) hR hl K
      · refine lv_tableIn (off := 1439) (tgt := 1478) hx hb dL_law_39 (by decide) (by decide) (by decide +kernel) (by decide) ?_
        exact lp_complete C0 hfl X0 I (by omega) g (4 * k) hi hL (by omega) (by omega) hR hl K
      · refine lv_tableIn (off := 1452) (tgt := 1491) hx hb dL_law_39 (by decide) (by decide) (by decide +kernel) (by decide) ?_
        exact lp_hasSent C0 hfl X0 I (by omega) g (4 * k) hi hL (by omega) (by omega) hR hl K
      · refine lv_tableIn (off := 1515) (tgt := 1554) hx hb dL_law_39 (by decide) (by decide) (by decide +kernel) (by decide) ?_
        exact lp_keptOffset C0 hfl X0 I (by omega) g (4 * k) hi hL (by omega) (by omega) hR hl K
      · refine lv_tableIn (off := 1571) (tgt := 1610) hx hb dL_law_39 (by decide) (by decide) (by decide +kernel) (by decide) ?_
        exact lp_keptSum C0 hfl X0 I (by omega) g (4 * k) hi hL (by omega) (by omega) hR hl K
      · refine lv_tableIn (off := 1627) (tgt := 1666) hx hb dL_law_39 (by decide) (by decide) (by decide +kernel) (by decide) ?_
        exact lp_committedCount C0 hfl X0 I (by omega) g (4 * k) hi hL (by omega) (by omega) hR hl K
      · refine lv_tableIn (off := 1683) (tgt := 1722) hx hb dL_law_39 (by decide) (by decide) (by decide +kernel) (by decide) ?_
        exact lp_committedSum C0 hfl X0 I (by omega) g (4 * k) hi hL (by omega) (by omega) hR hl K
      · refine lv_tableIn (off := 1739) (tgt := 1778) hx hb dL_law_39 (by decide) (by decide) (by decide +kernel) (by decide) ?_
        exact lp_committed C0 hfl X0 I (by omega) g (4 * k) hi hL (by omega) (by omega) hR hl K
      · refine lv_tableIn (off := 1752) (tgt := 1791) hx hb dL_law_39 (by decide) (by decide) (by decide +kernel) (by decide) ?_
        exact lp_readSum C0 hfl X0 I (by omega) g (4 * k) hi hL (by omega) (by omega) hR hl K
      · refine lv_tableIn (off := 1808) (tgt := 1847) hx hb dL_law_39 (by decide) (by decide) (by decide +kernel) (by decide) ?_
        exact lp_sumInChannels C0 hfl X0 I (by omega) g (4 * k) hi hL (by omega) (by omega) hR hl K
      · refine lv_tableOut (tgt := 1903) hx hb dL_law_39 (Or.inr (by rw [nI_toInt (by omega)]; omega)) (by decide) ?_
        refine W.widen (k := 56 + k + 1) (n := 1679 + 6 * k + 6) (by omega) (by omega) ?_
        exact K _ _ _ _ _ _ (iv_q_ I) hR hl
