set_option maxHeartbeats 4000000 in
set_option maxRecDepth 100000 in
theorem c_L_low {l : Launch} {D : va_G} {cI cZ : ClassId} {ad : Nat → Nat} {B : Nat → Prop} (hG : ∀ S : zS, va_D B (wX cI cZ ad S)) (S : zS) (v : Int32) (n : Nat) (hn : 0 < n) (hn2 : n < 2 ^ 31) : zMi l yL_low wsL_low ({ frames := 0, cells := 0, slots := 0, locals := 0 } : Room) [.int (v), .int (nI (n))] D (zT cI cZ) B (wX cI cZ ad) S (fun (r : Int32) (S1 : zS) => r = (nI (zlow v n)) ∧ S1 = S) := by
  refine zMi_of (cc := cL_low) (maxL := 2) (ret := (some .int)) (by decide) rfl (Nat.le_of_ble_eq_true rfl) ?_
  intro pg en s mm below meth cd hx hb hr hml hown hts hlk hF hR ls hl
  have hl : lv_has ls 2 [(0, .int (v)), (1, .int (nI (n)))] := hl
  refine lv_iload_n hx hb dL_low_0 rfl (lv_at hl 0 rfl) ?_
  refine lv_ldc (own := RL) (v := (2147483647)) hx hb hown (hts (.constant RL 7 (2147483647)) (by decide +kernel)) dL_low_1 ?_
  refine lv_iand hx hb dL_low_3 ?_
  refine lv_topi (fun v1 ev1 => ?_)
  obtain rfl : v1 = (nI (v.toBitVec.toNat % 2 ^ 31)) := ev1.trans (pk_and v 31 (by decide +kernel))
  refine lv_iload_n hx hb dL_low_4 rfl (lv_at hl 1 rfl) ?_
  refine z_irem_n hx hb dL_low_5 (Nat.mod_lt _ (by decide)) (by omega) (by omega) ?_
  exact z_iret (w := wX cI cZ ad) (S1 := S) hx hb hr hlk hF hR dL_low_6 (⟨rfl, rfl⟩)
set_option maxHeartbeats 4000000 in
set_option maxRecDepth 100000 in
theorem o_append_append_e1 {l : Launch} {D : va_G} {cI cZ : ClassId} {ad : Nat → Nat} {B : Nat → Prop} (hG : ∀ S : zS, va_D B (wX cI cZ ad S)) (hfl : l.stackTraces = false) (S : zS) (x y z : Int32) (hO : zOK S) (hxb : zbad x 4) : zMC 1 6 l yL_append wsL_append ({ frames := 8, cells := 1, slots := 6, locals := 125 } : Room) [.ref (ad 0), .int (x), .int (y), .int (z)] D (zT cI cZ) B (wX cI cZ ad) S (fun (r : Int32) (S1 : zS) => r = ((-99999)) ∧ S1 = S) := by
  refine zMC_of (cc := cL_append) (maxL := 5) (ret := (some .int)) (hh := [(0, 7, 8, 14), (0, 7, 13, 17), (0, 7, 18, 19)]) (by decide) rfl (Nat.le_of_ble_eq_true rfl) ?_
  intro pg en s mm below meth cd hx hb hr hml hown hts hlk hex hF hR ls hl
  have hl : lv_has ls 5 [(0, .ref (ad 0)), (1, .int (x)), (2, .int (y)), (3, .int (z))] := hl
  refine lv_aload_n hx hb dL_append_0 rfl (lv_at hl 0 rfl) ?_
  refine lv_iload_n hx hb dL_append_1 rfl (lv_at hl 1 rfl) ?_
  refine lv_iload_n hx hb dL_append_2 rfl (lv_at hl 2 rfl) ?_
  refine lv_iload_n hx hb dL_append_3 rfl (lv_at hl 3 rfl) ?_
  refine z_wV_x (As := [.int (x), .int (y), .int (z)]) (rest := []) (w := wX cI cZ ad) ⟨hx, hb, hml, hown, hts⟩ hF hR (c_X4_append_e1 hG hfl S x y z hO hxb) (cwV 3 hts gL_append_X4_append rfl rfl rfl (by decide +kernel) ⟨Nat.le_of_ble_eq_true rfl, Nat.le_of_ble_eq_true rfl⟩) (wX_c0 S) rfl rfl rfl hl rfl (Nat.le_of_ble_eq_true rfl) (by decide) dL_append_4 (fun E ce q9 H locs hp hR h1 h2 h3 => ?_)
  subst hp
  refine vx_catch (own := RL) (name := zIO) hown [] ⟨0, 7, 8, 14⟩ [⟨0, 7, 13, 17⟩, ⟨0, 7, 18, 19⟩] (by rw [hex]; rfl) (fun _ h => absurd h List.not_mem_nil) (by decide) (by decide) (hts (.classLink RL 14 zIO) (by decide +kernel)) (va_Nw.use rfl (hF.2.2.2.1 _ (by decide +kernel))) h1 h2 h3 ?_
  refine lv_astore (lv' := [(4, .ref (q9)), (0, .ref (ad 0)), (1, .int (x)), (2, .int (y)), (3, .int (z))]) hx hb dL_append_8 hl (by decide) rfl (fun ls hl => ?_)
  refine lv_ldc (own := RL) (v := (-99999)) hx hb hown (hts (.constant RL 16 (-99999)) (by decide +kernel)) dL_append_10 ?_
  exact z_iret (w := wX cI cZ ad) (S1 := S) hx hb hr hlk hF hR dL_append_12 (⟨rfl, rfl⟩)
set_option maxHeartbeats 4000000 in
set_option maxRecDepth 100000 in
theorem o_append_append_e2 {l : Launch} {D : va_G} {cI cZ : ClassId} {ad : Nat → Nat} {B : Nat → Prop} (hG : ∀ S : zS, va_D B (wX cI cZ ad S)) (hfl : l.stackTraces = false) (S : zS) (p : Nat) (y z : Int32) (hO : zOK S) (hp : p < 4) (hxb : zbad y 32) : zMC 1 6 l yL_append wsL_append ({ frames := 8, cells := 1, slots := 6, locals := 125 } : Room) [.ref (ad 0), .int (nI (p)), .int (y), .int (z)] D (zT cI cZ) B (wX cI cZ ad) S (fun (r : Int32) (S1 : zS) => r = ((-99999)) ∧ S1 = S) := by
  refine zMC_of (cc := cL_append) (maxL := 5) (ret := (some .int)) (hh := [(0, 7, 8, 14), (0, 7, 13, 17), (0, 7, 18, 19)]) (by decide) rfl (Nat.le_of_ble_eq_true rfl) ?_
  intro pg en s mm below meth cd hx hb hr hml hown hts hlk hex hF hR ls hl
  have hl : lv_has ls 5 [(0, .ref (ad 0)), (1, .int (nI (p))), (2, .int (y)), (3, .int (z))] := hl
  refine lv_aload_n hx hb dL_append_0 rfl (lv_at hl 0 rfl) ?_
  refine lv_iload_n hx hb dL_append_1 rfl (lv_at hl 1 rfl) ?_
  refine lv_iload_n hx hb dL_append_2 rfl (lv_at hl 2 rfl) ?_
  refine lv_iload_n hx hb dL_append_3 rfl (lv_at hl 3 rfl) ?_
  refine z_wV_x (As := [.int (nI (p)), .int (y), .int (z)]) (rest := []) (w := wX cI cZ ad) ⟨hx, hb, hml, hown, hts⟩ hF hR (c_X4_append_e2 hG hfl S p y z hO hp hxb) (cwV 3 hts gL_append_X4_append rfl rfl rfl (by decide +kernel) ⟨Nat.le_of_ble_eq_true rfl, Nat.le_of_ble_eq_true rfl⟩) (wX_c0 S) rfl rfl rfl hl rfl (Nat.le_of_ble_eq_true rfl) (by decide) dL_append_4 (fun E ce q9 H locs hp hR h1 h2 h3 => ?_)
  subst hp
  refine vx_catch (own := RL) (name := zIO) hown [] ⟨0, 7, 8, 14⟩ [⟨0, 7, 13, 17⟩, ⟨0, 7, 18, 19⟩] (by rw [hex]; rfl) (fun _ h => absurd h List.not_mem_nil) (by decide) (by decide) (hts (.classLink RL 14 zIO) (by decide +kernel)) (va_Nw.use rfl (hF.2.2.2.1 _ (by decide +kernel))) h1 h2 h3 ?_
  refine lv_astore (lv' := [(4, .ref (q9)), (0, .ref (ad 0)), (1, .int (nI (p))), (2, .int (y)), (3, .int (z))]) hx hb dL_append_8 hl (by decide) rfl (fun ls hl => ?_)
  refine lv_ldc (own := RL) (v := (-99999)) hx hb hown (hts (.constant RL 16 (-99999)) (by decide +kernel)) dL_append_10 ?_
  exact z_iret (w := wX cI cZ ad) (S1 := S) hx hb hr hlk hF hR dL_append_12 (⟨rfl, rfl⟩)
set_option maxHeartbeats 4000000 in
set_option maxRecDepth 100000 in
theorem o_append_append_e3 {l : Launch} {D : va_G} {cI cZ : ClassId} {ad : Nat → Nat} {B : Nat → Prop} (hG : ∀ S : zS, va_D B (wX cI cZ ad S)) (hfl : l.stackTraces = false) (S : zS) (p key : Nat) (z : Int32) (hO : zOK S) (hp : p < 4) (hk : key < 32) (hz : zbadv z 1 100) : zMC 1 6 l yL_append wsL_append ({ frames := 8, cells := 1, slots := 6, locals := 125 } : Room) [.ref (ad 0), .int (nI (p)), .int (nI (key)), .int (z)] D (zT cI cZ) B (wX cI cZ ad) S (fun (r : Int32) (S1 : zS) => r = ((-99999)) ∧ S1 = S) := by
  refine zMC_of (cc := cL_append) (maxL := 5) (ret := (some .int)) (hh := [(0, 7, 8, 14), (0, 7, 13, 17), (0, 7, 18, 19)]) (by decide) rfl (Nat.le_of_ble_eq_true rfl) ?_
  intro pg en s mm below meth cd hx hb hr hml hown hts hlk hex hF hR ls hl
  have hl : lv_has ls 5 [(0, .ref (ad 0)), (1, .int (nI (p))), (2, .int (nI (key))), (3, .int (z))] := hl
  refine lv_aload_n hx hb dL_append_0 rfl (lv_at hl 0 rfl) ?_
  refine lv_iload_n hx hb dL_append_1 rfl (lv_at hl 1 rfl) ?_
  refine lv_iload_n hx hb dL_append_2 rfl (lv_at hl 2 rfl) ?_
  refine lv_iload_n hx hb dL_append_3 rfl (lv_at hl 3 rfl) ?_
  refine z_wV_x (As := [.int (nI (p)), .int (nI (key)), .int (z)]) (rest := []) (w := wX cI cZ ad) ⟨hx, hb, hml, hown, hts⟩ hF hR (c_X4_append_e3 hG hfl S p key z hO hp hk hz) (cwV 3 hts gL_append_X4_append rfl rfl rfl (by decide +kernel) ⟨Nat.le_of_ble_eq_true rfl, Nat.le_of_ble_eq_true rfl⟩) (wX_c0 S) rfl rfl rfl hl rfl (Nat.le_of_ble_eq_true rfl) (by decide) dL_append_4 (fun E ce q9 H locs hp hR h1 h2 h3 => ?_)
  subst hp
  refine vx_catch (own := RL) (name := zIA) hown [⟨0, 7, 8, 14⟩] ⟨0, 7, 13, 17⟩ [⟨0, 7, 18, 19⟩] (by rw [hex]; rfl) (List.forall_mem_cons.mpr ⟨Or.inr ⟨by decide, zIO, hts (.classLink RL 14 zIO) (by decide +kernel), hF.2.2.2.2.1 (zIA, zIO) (by decide +kernel)⟩, (fun _ h => absurd h List.not_mem_nil)⟩) (by decide) (by decide) (hts (.classLink RL 17 zIA) (by decide +kernel)) (va_Nw.use rfl (hF.2.2.2.1 _ (by decide +kernel))) h1 h2 h3 ?_
  refine lv_astore (lv' := [(4, .ref (q9)), (0, .ref (ad 0)), (1, .int (nI (p))), (2, .int (nI (key))), (3, .int (z))]) hx hb dL_append_13 hl (by decide) rfl (fun ls hl => ?_)
  refine lv_ldc (own := RL) (v := (-99999)) hx hb hown (hts (.constant RL 16 (-99999)) (by decide +kernel)) dL_append_15 ?_
  exact z_iret (w := wX cI cZ ad) (S1 := S) hx hb hr hlk hF hR dL_append_17 (⟨rfl, rfl⟩)
set_option maxHeartbeats 4000000 in
set_option maxRecDepth 100000 in
theorem o_append_append_e4 {l : Launch} {D : va_G} {cI cZ : ClassId} {ad : Nat → Nat} {B : Nat → Prop} (hG : ∀ S : zS, va_D B (wX cI cZ ad S)) (hfl : l.stackTraces = false) (S : zS) (p key v : Nat) (hO : zOK S) (hp : p < 4) (hk : key < 32) (hv : 1 ≤ v) (hv2 : v ≤ 100) (hn : ¬ zn S 0 p < 60) : zMC 1 6 l yL_append wsL_append ({ frames := 8, cells := 1, slots := 6, locals := 125 } : Room) [.ref (ad 0), .int (nI (p)), .int (nI (key)), .int (nI (v))] D (zT cI cZ) B (wX cI cZ ad) S (fun (r : Int32) (S1 : zS) => r = ((-99999)) ∧ S1 = S) := by
  refine zMC_of (cc := cL_append) (maxL := 5) (ret := (some .int)) (hh := [(0, 7, 8, 14), (0, 7, 13, 17), (0, 7, 18, 19)]) (by decide) rfl (Nat.le_of_ble_eq_true rfl) ?_
  intro pg en s mm below meth cd hx hb hr hml hown hts hlk hex hF hR ls hl
  have hl : lv_has ls 5 [(0, .ref (ad 0)), (1, .int (nI (p))), (2, .int (nI (key))), (3, .int (nI (v)))] := hl
  refine lv_aload_n hx hb dL_append_0 rfl (lv_at hl 0 rfl) ?_
  refine lv_iload_n hx hb dL_append_1 rfl (lv_at hl 1 rfl) ?_
  refine lv_iload_n hx hb dL_append_2 rfl (lv_at hl 2 rfl) ?_
  refine lv_iload_n hx hb dL_append_3 rfl (lv_at hl 3 rfl) ?_
  refine z_wV_x (As := [.int (nI (p)), .int (nI (key)), .int (nI (v))]) (rest := []) (w := wX cI cZ ad) ⟨hx, hb, hml, hown, hts⟩ hF hR (c_X4_append_e4 hG hfl S p key v hO hp hk hv hv2 hn) (cwV 3 hts gL_append_X4_append rfl rfl rfl (by decide +kernel) ⟨Nat.le_of_ble_eq_true rfl, Nat.le_of_ble_eq_true rfl⟩) (wX_c0 S) rfl rfl rfl hl rfl (Nat.le_of_ble_eq_true rfl) (by decide) dL_append_4 (fun E ce q9 H locs hp hR h1 h2 h3 => ?_)
  subst hp
  refine vx_catch (own := RL) (name := zIS) hown [⟨0, 7, 8, 14⟩, ⟨0, 7, 13, 17⟩] ⟨0, 7, 18, 19⟩ [] (by rw [hex]; rfl) (List.forall_mem_cons.mpr ⟨Or.inr ⟨by decide, zIO, hts (.classLink RL 14 zIO) (by decide +kernel), hF.2.2.2.2.1 (zIS, zIO) (by decide +kernel)⟩, (List.forall_mem_cons.mpr ⟨Or.inr ⟨by decide, zIA, hts (.classLink RL 17 zIA) (by decide +kernel), hF.2.2.2.2.1 (zIS, zIA) (by decide +kernel)⟩, (fun _ h => absurd h List.not_mem_nil)⟩)⟩) (by decide) (by decide) (hts (.classLink RL 19 zIS) (by decide +kernel)) (va_Nw.use rfl (hF.2.2.2.1 _ (by decide +kernel))) h1 h2 h3 ?_
  refine lv_astore (lv' := [(4, .ref (q9)), (0, .ref (ad 0)), (1, .int (nI (p))), (2, .int (nI (key))), (3, .int (nI (v)))]) hx hb dL_append_18 hl (by decide) rfl (fun ls hl => ?_)
  refine lv_ldc (own := RL) (v := (-99999)) hx hb hown (hts (.constant RL 16 (-99999)) (by decide +kernel)) dL_append_20 ?_
  exact z_iret (w := wX cI cZ ad) (S1 := S) hx hb hr hlk hF hR dL_append_22 (⟨rfl, rfl⟩)
set_option maxHeartbeats 4000000 in
set_option maxRecDepth 100000 in
theorem o_append_append_ok {l : Launch} {D : va_G} {cI cZ : ClassId} {ad : Nat → Nat} {B : Nat → Prop} (hG : ∀ S : zS, va_D B (wX cI cZ ad S)) (hfl : l.stackTraces = false) (S : zS) (p key v : Nat) (hO : zOK S) (hp : p < 4) (hk : key < 32) (hv : 1 ≤ v) (hv2 : v ≤ 100) (hn : zn S 0 p < 60) : zMC 0 0 l yL_append wsL_append ({ frames := 8, cells := 0, slots := 0, locals := 125 } : Room) [.ref (ad 0), .int (nI (p)), .int (nI (key)), .int (nI (v))] D (zT cI cZ) B (wX cI cZ ad) S (fun (r : Int32) (S1 : zS) => r = (nI (zn S 0 p)) ∧ S1 = sp_app S p (nI (1000 * key + v))) := by
  refine zMC_of (cc := cL_append) (maxL := 5) (ret := (some .int)) (hh := [(0, 7, 8, 14), (0, 7, 13, 17), (0, 7, 18, 19)]) (by decide) rfl (Nat.le_of_ble_eq_true rfl) ?_
  intro pg en s mm below meth cd hx hb hr hml hown hts hlk hex hF hR ls hl
  have hl : lv_has ls 5 [(0, .ref (ad 0)), (1, .int (nI (p))), (2, .int (nI (key))), (3, .int (nI (v)))] := hl
  refine lv_aload_n hx hb dL_append_0 rfl (lv_at hl 0 rfl) ?_
  refine lv_iload_n hx hb dL_append_1 rfl (lv_at hl 1 rfl) ?_
  refine lv_iload_n hx hb dL_append_2 rfl (lv_at hl 2 rfl) ?_
  refine lv_iload_n hx hb dL_append_3 rfl (lv_at hl 3 rfl) ?_
  refine z_callV_i (As := [.int (nI (p)), .int (nI (key)), .int (nI (v))]) (rest := []) (w := wX cI cZ ad) ⟨hx, hb, hml, hown, hts⟩ hF hR (c_X4_append_ok hG S p key v hO hp hk hv hv2 hn) (cwV 3 hts gL_append_X4_append rfl rfl rfl (by decide +kernel) ⟨Nat.le_of_ble_eq_true rfl, Nat.le_of_ble_eq_true rfl⟩) (wX_c0 S) rfl rfl rfl hl rfl (Nat.le_of_ble_eq_true rfl) (by decide) dL_append_4 (fun r1 S1 H locs hp1 hR => ?_)
  obtain ⟨hr1, hs1⟩ := hp1
  subst r1
  subst S1
  exact z_iret (w := wX cI cZ ad) (S1 := (sp_app S p (nI (1000 * key + v)))) hx hb hr hlk hF hR dL_append_7 (⟨rfl, rfl⟩)
set_option maxHeartbeats 4000000 in
set_option maxRecDepth 100000 in
theorem o_does_read_e1 {l : Launch} {D : va_G} {cI cZ : ClassId} {ad : Nat → Nat} {B : Nat → Prop} (hG : ∀ S : zS, va_D B (wX cI cZ ad S)) (hfl : l.stackTraces = false) (S : zS) (x : Int32) (hO : zOK S) (hxb : zbad x 4) : zMC 1 6 l yL_does wsL_does ({ frames := 8, cells := 1, slots := 6, locals := 156 } : Room) [.ref (ad 0), .int (nI (0)), .int (x), .int (nI (0))] D (zT cI cZ) B (wX cI cZ ad) S (fun (r : Int32) (S1 : zS) => r = ((-99999)) ∧ S1 = S) := by
  refine zMC_of (cc := cL_does) (maxL := 5) (ret := (some .int)) (hh := [(0, 68, 69, 14), (0, 68, 74, 19)]) (by decide) rfl (Nat.le_of_ble_eq_true rfl) ?_
  intro pg en s mm below meth cd hx hb hr hml hown hts hlk hex hF hR ls hl
  have hl : lv_has ls 5 [(0, .ref (ad 0)), (1, .int (nI (0))), (2, .int (x)), (3, .int (nI (0)))] := hl
  refine lv_iload_n hx hb dL_does_0 rfl (lv_at hl 1 rfl) ?_
  refine z_if_ne_n (tgt := 12) hx hb dL_does_1 (by decide) (by omega) (fun h1_1 => by omega) (fun h1_1 => ?_)
  refine lv_aload_n hx hb dL_does_4 rfl (lv_at hl 0 rfl) ?_
  refine lv_iload_n hx hb dL_does_5 rfl (lv_at hl 2 rfl) ?_
  refine z_wV_x (As := [.int (x)]) (rest := []) (w := wX cI cZ ad) ⟨hx, hb, hml, hown, hts⟩ hF hR (c_X4_read_e1 hG hfl S x hO hxb) (cwV 1 hts gL_does_X4_read rfl rfl rfl (by decide +kernel) ⟨Nat.le_of_ble_eq_true rfl, Nat.le_of_ble_eq_true rfl⟩) (wX_c0 S) rfl rfl rfl hl rfl (Nat.le_of_ble_eq_true rfl) (by decide) dL_does_6 (fun E ce q9 H locs hp hR h1 h2 h3 => ?_)
  subst hp
  refine vx_catch (own := RL) (name := zIO) hown [] ⟨0, 68, 69, 14⟩ [⟨0, 68, 74, 19⟩] (by rw [hex]; rfl) (fun _ h => absurd h List.not_mem_nil) (by decide) (by decide) (hts (.classLink RL 14 zIO) (by decide +kernel)) (va_Nw.use rfl (hF.2.2.2.1 _ (by decide +kernel))) h1 h2 h3 ?_
  refine lv_astore (lv' := [(4, .ref (q9)), (0, .ref (ad 0)), (1, .int (nI (0))), (2, .int (x)), (3, .int (nI (0)))]) hx hb dL_does_69 hl (by decide) rfl (fun ls hl => ?_)
  refine lv_ldc (own := RL) (v := (-99999)) hx hb hown (hts (.constant RL 16 (-99999)) (by decide +kernel)) dL_does_71 ?_
  exact z_iret (w := wX cI cZ ad) (S1 := S) hx hb hr hlk hF hR dL_does_73 (⟨rfl, rfl⟩)
set_option maxHeartbeats 4000000 in
set_option maxRecDepth 100000 in
theorem o_does_read_e2 {l : Launch} {D : va_G} {cI cZ : ClassId} {ad : Nat → Nat} {B : Nat → Prop} (hG : ∀ S : zS, va_D B (wX cI cZ ad S)) (hfl : l.stackTraces = false) (S : zS) (p : Nat) (hO : zOK S) (hp : p < 4) (hc : ¬ zcanR S p) : zMC 1 6 l yL_does wsL_does ({ frames := 8, cells := 1, slots := 6, locals := 156 } : Room) [.ref (ad 0), .int (nI (0)), .int (nI (p)), .int (nI (0))] D (zT cI cZ) B (wX cI cZ ad) S (fun (r : Int32) (S1 : zS) => r = ((-99999)) ∧ S1 = S) := by
  refine zMC_of (cc := cL_does) (maxL := 5) (ret := (some .int)) (hh := [(0, 68, 69, 14), (0, 68, 74, 19)]) (by decide) rfl (Nat.le_of_ble_eq_true rfl) ?_
  intro pg en s mm below meth cd hx hb hr hml hown hts hlk hex hF hR ls hl
  have hl : lv_has ls 5 [(0, .ref (ad 0)), (1, .int (nI (0))), (2, .int (nI (p))), (3, .int (nI (0)))] := hl
  refine lv_iload_n hx hb dL_does_0 rfl (lv_at hl 1 rfl) ?_
  refine z_if_ne_n (tgt := 12) hx hb dL_does_1 (by decide) (by omega) (fun h1_1 => by omega) (fun h1_1 => ?_)
  refine lv_aload_n hx hb dL_does_4 rfl (lv_at hl 0 rfl) ?_
  refine lv_iload_n hx hb dL_does_5 rfl (lv_at hl 2 rfl) ?_
  refine z_wV_x (As := [.int (nI (p))]) (rest := []) (w := wX cI cZ ad) ⟨hx, hb, hml, hown, hts⟩ hF hR (c_X4_read_e2 hG hfl S p hO hp hc) (cwV 1 hts gL_does_X4_read rfl rfl rfl (by decide +kernel) ⟨Nat.le_of_ble_eq_true rfl, Nat.le_of_ble_eq_true rfl⟩) (wX_c0 S) rfl rfl rfl hl rfl (Nat.le_of_ble_eq_true rfl) (by decide) dL_does_6 (fun E ce q9 H locs hp hR h1 h2 h3 => ?_)
  subst hp
  refine vx_catch (own := RL) (name := zIS) hown [⟨0, 68, 69, 14⟩] ⟨0, 68, 74, 19⟩ [] (by rw [hex]; rfl) (List.forall_mem_cons.mpr ⟨Or.inr ⟨by decide, zIO, hts (.classLink RL 14 zIO) (by decide +kernel), hF.2.2.2.2.1 (zIS, zIO) (by decide +kernel)⟩, (fun _ h => absurd h List.not_mem_nil)⟩) (by decide) (by decide) (hts (.classLink RL 19 zIS) (by decide +kernel)) (va_Nw.use rfl (hF.2.2.2.1 _ (by decide +kernel))) h1 h2 h3 ?_
  refine lv_astore (lv' := [(4, .ref (q9)), (0, .ref (ad 0)), (1, .int (nI (0))), (2, .int (nI (p))), (3, .int (nI (0)))]) hx hb dL_does_74 hl (by decide) rfl (fun ls hl => ?_)
  refine lv_ldc (own := RL) (v := (-99999)) hx hb hown (hts (.constant RL 16 (-99999)) (by decide +kernel)) dL_does_76 ?_
  exact z_iret (w := wX cI cZ ad) (S1 := S) hx hb hr hlk hF hR dL_does_78 (⟨rfl, rfl⟩)
set_option maxHeartbeats 4000000 in
set_option maxRecDepth 100000 in
theorem o_does_read_ok {l : Launch} {D : va_G} {cI cZ : ClassId} {ad : Nat → Nat} {B : Nat → Prop} (hG : ∀ S : zS, va_D B (wX cI cZ ad S)) (hfl : l.stackTraces = false) (S : zS) (p : Nat) (hO : zOK S) (hp : p < 4) (hc : zcanR S p) : zMC 0 0 l yL_does wsL_does ({ frames := 8, cells := 0, slots := 0, locals := 156 } : Room) [.ref (ad 0), .int (nI (0)), .int (nI (p)), .int (nI (0))] D (zT cI cZ) B (wX cI cZ ad) S (fun (r : Int32) (S1 : zS) => r = (nI (zrw S p)) ∧ S1 = sp_read S p) := by
  refine zMC_of (cc := cL_does) (maxL := 5) (ret := (some .int)) (hh := [(0, 68, 69, 14), (0, 68, 74, 19)]) (by decide) rfl (Nat.le_of_ble_eq_true rfl) ?_
  intro pg en s mm below meth cd hx hb hr hml hown hts hlk hex hF hR ls hl
  have hl : lv_has ls 5 [(0, .ref (ad 0)), (1, .int (nI (0))), (2, .int (nI (p))), (3, .int (nI (0)))] := hl
  refine lv_iload_n hx hb dL_does_0 rfl (lv_at hl 1 rfl) ?_
  refine z_if_ne_n (tgt := 12) hx hb dL_does_1 (by decide) (by omega) (fun h1_1 => by omega) (fun h1_1 => ?_)
  refine lv_aload_n hx hb dL_does_4 rfl (lv_at hl 0 rfl) ?_
  refine lv_iload_n hx hb dL_does_5 rfl (lv_at hl 2 rfl) ?_
  refine z_callV_i (As := [.int (nI (p))]) (rest := []) (w := wX cI cZ ad) ⟨hx, hb, hml, hown, hts⟩ hF hR (c_X4_read_ok hG S p hO hp hc) (cwV 1 hts gL_does_X4_read rfl rfl rfl (by decide +kernel) ⟨Nat.le_of_ble_eq_true rfl, Nat.le_of_ble_eq_true rfl⟩) (wX_c0 S) rfl rfl rfl hl rfl (Nat.le_of_ble_eq_true rfl) (by decide) dL_does_6 (fun r2 S2 H locs hp2 hR => ?_)
  obtain ⟨hr2, hs2⟩ := hp2
  subst r2
  subst S2
  refine lv_goto (tgt := 68) hx hb dL_does_9 (by decide) ?_
  exact z_iret (w := wX cI cZ ad) (S1 := (sp_read S p)) hx hb hr hlk hF hR dL_does_68 (⟨rfl, rfl⟩)
set_option maxHeartbeats 4000000 in
set_option maxRecDepth 100000 in
theorem o_does_sendBarrier_e1 {l : Launch} {D : va_G} {cI cZ : ClassId} {ad : Nat → Nat} {B : Nat → Prop} (hG : ∀ S : zS, va_D B (wX cI cZ ad S)) (hfl : l.stackTraces = false) (S : zS) (x : Int32) (hO : zOK S) (hxb : zbad x 4) : zMC 1 6 l yL_does wsL_does ({ frames := 8, cells := 1, slots := 6, locals := 156 } : Room) [.ref (ad 0), .int (nI (1)), .int (x), .int (nI (0))] D (zT cI cZ) B (wX cI cZ ad) S (fun (r : Int32) (S1 : zS) => r = ((-99999)) ∧ S1 = S) := by
  refine zMC_of (cc := cL_does) (maxL := 5) (ret := (some .int)) (hh := [(0, 68, 69, 14), (0, 68, 74, 19)]) (by decide) rfl (Nat.le_of_ble_eq_true rfl) ?_
  intro pg en s mm below meth cd hx hb hr hml hown hts hlk hex hF hR ls hl
  have hl : lv_has ls 5 [(0, .ref (ad 0)), (1, .int (nI (1))), (2, .int (x)), (3, .int (nI (0)))] := hl
  refine lv_iload_n hx hb dL_does_0 rfl (lv_at hl 1 rfl) ?_
  refine z_if_ne_n (tgt := 12) hx hb dL_does_1 (by decide) (by omega) (fun h1_1 => ?_) (fun h1_1 => by omega)
  refine lv_iload_n hx hb dL_does_12 rfl (lv_at hl 1 rfl) ?_
  refine lv_iconst (v := (nI (1))) hx hb dL_does_13 (by decide) ?_
  refine z_ne_n (tgt := 25) hx hb dL_does_14 (by decide) (by omega) (by omega) (fun h14_2 => by omega) (fun h14_2 => ?_)
  refine lv_aload_n hx hb dL_does_17 rfl (lv_at hl 0 rfl) ?_
  refine lv_iload_n hx hb dL_does_18 rfl (lv_at hl 2 rfl) ?_
  refine z_wV_x (As := [.int (x)]) (rest := []) (w := wX cI cZ ad) ⟨hx, hb, hml, hown, hts⟩ hF hR (c_X4_sendBarrier_e1 hG hfl S x hO hxb) (cwV 1 hts gL_does_X4_sendBarrier rfl rfl rfl (by decide +kernel) ⟨Nat.le_of_ble_eq_true rfl, Nat.le_of_ble_eq_true rfl⟩) (wX_c0 S) rfl rfl rfl hl rfl (Nat.le_of_ble_eq_true rfl) (by decide) dL_does_19 (fun E ce q9 H locs hp hR h1 h2 h3 => ?_)
  subst hp
  refine vx_catch (own := RL) (name := zIO) hown [] ⟨0, 68, 69, 14⟩ [⟨0, 68, 74, 19⟩] (by rw [hex]; rfl) (fun _ h => absurd h List.not_mem_nil) (by decide) (by decide) (hts (.classLink RL 14 zIO) (by decide +kernel)) (va_Nw.use rfl (hF.2.2.2.1 _ (by decide +kernel))) h1 h2 h3 ?_
  refine lv_astore (lv' := [(4, .ref (q9)), (0, .ref (ad 0)), (1, .int (nI (1))), (2, .int (x)), (3, .int (nI (0)))]) hx hb dL_does_69 hl (by decide) rfl (fun ls hl => ?_)
  refine lv_ldc (own := RL) (v := (-99999)) hx hb hown (hts (.constant RL 16 (-99999)) (by decide +kernel)) dL_does_71 ?_
  exact z_iret (w := wX cI cZ ad) (S1 := S) hx hb hr hlk hF hR dL_does_73 (⟨rfl, rfl⟩)
set_option maxHeartbeats 4000000 in
set_option maxRecDepth 100000 in
theorem o_does_sendBarrier_e2 {l : Launch} {D : va_G} {cI cZ : ClassId} {ad : Nat → Nat} {B : Nat → Prop} (hG : ∀ S : zS, va_D B (wX cI cZ ad S)) (hfl : l.stackTraces = false) (S : zS) (p : Nat) (hO : zOK S) (hp : p < 4) (hc : S 22 2 = (-1) ∨ S 4 p = nI 1) : zMC 1 6 l yL_does wsL_does ({ frames := 8, cells := 1, slots := 6, locals := 156 } : Room) [.ref (ad 0), .int (nI (1)), .int (nI (p)), .int (nI (0))] D (zT cI cZ) B (wX cI cZ ad) S (fun (r : Int32) (S1 : zS) => r = ((-99999)) ∧ S1 = S) := by
  refine zMC_of (cc := cL_does) (maxL := 5) (ret := (some .int)) (hh := [(0, 68, 69, 14), (0, 68, 74, 19)]) (by decide) rfl (Nat.le_of_ble_eq_true rfl) ?_
  intro pg en s mm below meth cd hx hb hr hml hown hts hlk hex hF hR ls hl
  have hl : lv_has ls 5 [(0, .ref (ad 0)), (1, .int (nI (1))), (2, .int (nI (p))), (3, .int (nI (0)))] := hl
  refine lv_iload_n hx hb dL_does_0 rfl (lv_at hl 1 rfl) ?_
  refine z_if_ne_n (tgt := 12) hx hb dL_does_1 (by decide) (by omega) (fun h1_1 => ?_) (fun h1_1 => by omega)
  refine lv_iload_n hx hb dL_does_12 rfl (lv_at hl 1 rfl) ?_
  refine lv_iconst (v := (nI (1))) hx hb dL_does_13 (by decide) ?_
  refine z_ne_n (tgt := 25) hx hb dL_does_14 (by decide) (by omega) (by omega) (fun h14_2 => by omega) (fun h14_2 => ?_)
  refine lv_aload_n hx hb dL_does_17 rfl (lv_at hl 0 rfl) ?_
  refine lv_iload_n hx hb dL_does_18 rfl (lv_at hl 2 rfl) ?_
  refine z_wV_x (As := [.int (nI (p))]) (rest := []) (w := wX cI cZ ad) ⟨hx, hb, hml, hown, hts⟩ hF hR (c_X4_sendBarrier_e2 hG hfl S p hO hp hc) (cwV 1 hts gL_does_X4_sendBarrier rfl rfl rfl (by decide +kernel) ⟨Nat.le_of_ble_eq_true rfl, Nat.le_of_ble_eq_true rfl⟩) (wX_c0 S) rfl rfl rfl hl rfl (Nat.le_of_ble_eq_true rfl) (by decide) dL_does_19 (fun E ce q9 H locs hp hR h1 h2 h3 => ?_)
  subst hp
  refine vx_catch (own := RL) (name := zIS) hown [⟨0, 68, 69, 14⟩] ⟨0, 68, 74, 19⟩ [] (by rw [hex]; rfl) (List.forall_mem_cons.mpr ⟨Or.inr ⟨by decide, zIO, hts (.classLink RL 14 zIO) (by decide +kernel), hF.2.2.2.2.1 (zIS, zIO) (by decide +kernel)⟩, (fun _ h => absurd h List.not_mem_nil)⟩) (by decide) (by decide) (hts (.classLink RL 19 zIS) (by decide +kernel)) (va_Nw.use rfl (hF.2.2.2.1 _ (by decide +kernel))) h1 h2 h3 ?_
  refine lv_astore (lv' := [(4, .ref (q9)), (0, .ref (ad 0)), (1, .int (nI (1))), (2, .int (nI (p))), (3, .int (nI (0)))]) hx hb dL_does_74 hl (by decide) rfl (fun ls hl => ?_)
  refine lv_ldc (own := RL) (v := (-99999)) hx hb hown (hts (.constant RL 16 (-99999)) (by decide +kernel)) dL_does_76 ?_
  exact z_iret (w := wX cI cZ ad) (S1 := S) hx hb hr hlk hF hR dL_does_78 (⟨rfl, rfl⟩)
set_option maxHeartbeats 4000000 in
set_option maxRecDepth 100000 in
theorem o_does_sendBarrier_e3 {l : Launch} {D : va_G} {cI cZ : ClassId} {ad : Nat → Nat} {B : Nat → Prop} (hG : ∀ S : zS, va_D B (wX cI cZ ad S)) (hfl : l.stackTraces = false) (S : zS) (p : Nat) (hO : zOK S) (hp : p < 4) (hc1 : ¬ S 22 2 = (-1)) (hc2 : S 4 p = nI 0) (hc : ¬ ∀ w, w < zn S 22 0 → zn S 7 (4 * p + w) < 8) : zMC 1 6 l yL_does wsL_does ({ frames := 8, cells := 1, slots := 6, locals := 156 } : Room) [.ref (ad 0), .int (nI (1)), .int (nI (p)), .int (nI (0))] D (zT cI cZ) B (wX cI cZ ad) S (fun (r : Int32) (S1 : zS) => r = ((-99999)) ∧ S1 = S) := by
  refine zMC_of (cc := cL_does) (maxL := 5) (ret := (some .int)) (hh := [(0, 68, 69, 14), (0, 68, 74, 19)]) (by decide) rfl (Nat.le_of_ble_eq_true rfl) ?_
  intro pg en s mm below meth cd hx hb hr hml hown hts hlk hex hF hR ls hl
  have hl : lv_has ls 5 [(0, .ref (ad 0)), (1, .int (nI (1))), (2, .int (nI (p))), (3, .int (nI (0)))] := hl
  refine lv_iload_n hx hb dL_does_0 rfl (lv_at hl 1 rfl) ?_
  refine z_if_ne_n (tgt := 12) hx hb dL_does_1 (by decide) (by omega) (fun h1_1 => ?_) (fun h1_1 => by omega)
  refine lv_iload_n hx hb dL_does_12 rfl (lv_at hl 1 rfl) ?_
  refine lv_iconst (v := (nI (1))) hx hb dL_does_13 (by decide) ?_
  refine z_ne_n (tgt := 25) hx hb dL_does_14 (by decide) (by omega) (by omega) (fun h14_2 => by omega) (fun h14_2 => ?_)
  refine lv_aload_n hx hb dL_does_17 rfl (lv_at hl 0 rfl) ?_
  refine lv_iload_n hx hb dL_does_18 rfl (lv_at hl 2 rfl) ?_
  refine z_wV_x (As := [.int (nI (p))]) (rest := []) (w := wX cI cZ ad) ⟨hx, hb, hml, hown, hts⟩ hF hR (c_X4_sendBarrier_e3 hG hfl S p hO hp hc1 hc2 hc) (cwV 1 hts gL_does_X4_sendBarrier rfl rfl rfl (by decide +kernel) ⟨Nat.le_of_ble_eq_true rfl, Nat.le_of_ble_eq_true rfl⟩) (wX_c0 S) rfl rfl rfl hl rfl (Nat.le_of_ble_eq_true rfl) (by decide) dL_does_19 (fun E ce q9 H locs hp hR h1 h2 h3 => ?_)
  subst hp
  refine vx_catch (own := RL) (name := zIS) hown [⟨0, 68, 69, 14⟩] ⟨0, 68, 74, 19⟩ [] (by rw [hex]; rfl) (List.forall_mem_cons.mpr ⟨Or.inr ⟨by decide, zIO, hts (.classLink RL 14 zIO) (by decide +kernel), hF.2.2.2.2.1 (zIS, zIO) (by decide +kernel)⟩, (fun _ h => absurd h List.not_mem_nil)⟩) (by decide) (by decide) (hts (.classLink RL 19 zIS) (by decide +kernel)) (va_Nw.use rfl (hF.2.2.2.1 _ (by decide +kernel))) h1 h2 h3 ?_
  refine lv_astore (lv' := [(4, .ref (q9)), (0, .ref (ad 0)), (1, .int (nI (1))), (2, .int (nI (p))), (3, .int (nI (0)))]) hx hb dL_does_74 hl (by decide) rfl (fun ls hl => ?_)
  refine lv_ldc (own := RL) (v := (-99999)) hx hb hown (hts (.constant RL 16 (-99999)) (by decide +kernel)) dL_does_76 ?_
  exact z_iret (w := wX cI cZ ad) (S1 := S) hx hb hr hlk hF hR dL_does_78 (⟨rfl, rfl⟩)
set_option maxHeartbeats 4000000 in
set_option maxRecDepth 100000 in
theorem o_does_sendBarrier_ok {l : Launch} {D : va_G} {cI cZ : ClassId} {ad : Nat → Nat} {B : Nat → Prop} (hG : ∀ S : zS, va_D B (wX cI cZ ad S)) (hfl : l.stackTraces = false) (S : zS) (p : Nat) (hO : zOK S) (hp : p < 4) (hc1 : ¬ S 22 2 = (-1)) (hc2 : S 4 p = nI 0) (hc : ∀ w, w < zn S 22 0 → zn S 7 (4 * p + w) < 8) (hxb : (-(S 22 2)).toInt ≤ 31100) : zMC 0 0 l yL_does wsL_does ({ frames := 8, cells := 0, slots := 0, locals := 156 } : Room) [.ref (ad 0), .int (nI (1)), .int (nI (p)), .int (nI (0))] D (zT cI cZ) B (wX cI cZ ad) S (fun (r : Int32) (S1 : zS) => r = (nI (zn (sp_sb S p (zn S 22 0)) 2 p)) ∧ S1 = sp_send S p) := by
  refine zMC_of (cc := cL_does) (maxL := 5) (ret := (some .int)) (hh := [(0, 68, 69, 14), (0, 68, 74, 19)]) (by decide) rfl (Nat.le_of_ble_eq_true rfl) ?_
  intro pg en s mm below meth cd hx hb hr hml hown hts hlk hex hF hR ls hl
  have hl : lv_has ls 5 [(0, .ref (ad 0)), (1, .int (nI (1))), (2, .int (nI (p))), (3, .int (nI (0)))] := hl
  refine lv_iload_n hx hb dL_does_0 rfl (lv_at hl 1 rfl) ?_
  refine z_if_ne_n (tgt := 12) hx hb dL_does_1 (by decide) (by omega) (fun h1_1 => ?_) (fun h1_1 => by omega)
  refine lv_iload_n hx hb dL_does_12 rfl (lv_at hl 1 rfl) ?_
  refine lv_iconst (v := (nI (1))) hx hb dL_does_13 (by decide) ?_
  refine z_ne_n (tgt := 25) hx hb dL_does_14 (by decide) (by omega) (by omega) (fun h14_2 => by omega) (fun h14_2 => ?_)
  refine lv_aload_n hx hb dL_does_17 rfl (lv_at hl 0 rfl) ?_
  refine lv_iload_n hx hb dL_does_18 rfl (lv_at hl 2 rfl) ?_
  refine z_callV_i (As := [.int (nI (p))]) (rest := []) (w := wX cI cZ ad) ⟨hx, hb, hml, hown, hts⟩ hF hR (c_X4_sendBarrier_ok hG S p hO hp hc1 hc2 hc hxb) (cwV 1 hts gL_does_X4_sendBarrier rfl rfl rfl (by decide +kernel) ⟨Nat.le_of_ble_eq_true rfl, Nat.le_of_ble_eq_true rfl⟩) (wX_c0 S) rfl rfl rfl hl rfl (Nat.le_of_ble_eq_true rfl) (by decide) dL_does_19 (fun r3 S3 H locs hp3 hR => ?_)
  obtain ⟨hr3, hs3⟩ := hp3
  subst r3
  subst S3
  refine lv_goto (tgt := 68) hx hb dL_does_22 (by decide) ?_
  exact z_iret (w := wX cI cZ ad) (S1 := (sp_send S p)) hx hb hr hlk hF hR dL_does_68 (⟨rfl, rfl⟩)
set_option maxHeartbeats 4000000 in
set_option maxRecDepth 100000 in
theorem o_does_take_e1 {l : Launch} {D : va_G} {cI cZ : ClassId} {ad : Nat → Nat} {B : Nat → Prop} (hG : ∀ S : zS, va_D B (wX cI cZ ad S)) (hfl : l.stackTraces = false) (S : zS) (x y : Int32) (hO : zOK S) (hxb : zbad x (zn S 22 0)) : zMC 1 6 l yL_does wsL_does ({ frames := 8, cells := 1, slots := 6, locals := 156 } : Room) [.ref (ad 0), .int (nI (2)), .int (x), .int (y)] D (zT cI cZ) B (wX cI cZ ad) S (fun (r : Int32) (S1 : zS) => r = ((-99999)) ∧ S1 = S) := by
  refine zMC_of (cc := cL_does) (maxL := 5) (ret := (some .int)) (hh := [(0, 68, 69, 14), (0, 68, 74, 19)]) (by decide) rfl (Nat.le_of_ble_eq_true rfl) ?_
  intro pg en s mm below meth cd hx hb hr hml hown hts hlk hex hF hR ls hl
  have hl : lv_has ls 5 [(0, .ref (ad 0)), (1, .int (nI (2))), (2, .int (x)), (3, .int (y))] := hl
  refine lv_iload_n hx hb dL_does_0 rfl (lv_at hl 1 rfl) ?_
  refine z_if_ne_n (tgt := 12) hx hb dL_does_1 (by decide) (by omega) (fun h1_1 => ?_) (fun h1_1 => by omega)
  refine lv_iload_n hx hb dL_does_12 rfl (lv_at hl 1 rfl) ?_
  refine lv_iconst (v := (nI (1))) hx hb dL_does_13 (by decide) ?_
  refine z_ne_n (tgt := 25) hx hb dL_does_14 (by decide) (by omega) (by omega) (fun h14_2 => ?_) (fun h14_2 => by omega)
  refine lv_iload_n hx hb dL_does_25 rfl (lv_at hl 1 rfl) ?_
  refine lv_iconst (v := (nI (2))) hx hb dL_does_26 (by decide) ?_
  refine z_ne_n (tgt := 39) hx hb dL_does_27 (by decide) (by omega) (by omega) (fun h27_3 => by omega) (fun h27_3 => ?_)
  refine lv_aload_n hx hb dL_does_30 rfl (lv_at hl 0 rfl) ?_
  refine lv_iload_n hx hb dL_does_31 rfl (lv_at hl 2 rfl) ?_
  refine lv_iload_n hx hb dL_does_32 rfl (lv_at hl 3 rfl) ?_
  refine z_wV_x (As := [.int (x), .int (y)]) (rest := []) (w := wX cI cZ ad) ⟨hx, hb, hml, hown, hts⟩ hF hR (c_X4_take_e1 hG hfl S x y hO hxb) (cwV 2 hts gL_does_X4_take rfl rfl rfl (by decide +kernel) ⟨Nat.le_of_ble_eq_true rfl, Nat.le_of_ble_eq_true rfl⟩) (wX_c0 S) rfl rfl rfl hl rfl (Nat.le_of_ble_eq_true rfl) (by decide) dL_does_33 (fun E ce q9 H locs hp hR h1 h2 h3 => ?_)
  subst hp
  refine vx_catch (own := RL) (name := zIO) hown [] ⟨0, 68, 69, 14⟩ [⟨0, 68, 74, 19⟩] (by rw [hex]; rfl) (fun _ h => absurd h List.not_mem_nil) (by decide) (by decide) (hts (.classLink RL 14 zIO) (by decide +kernel)) (va_Nw.use rfl (hF.2.2.2.1 _ (by decide +kernel))) h1 h2 h3 ?_
  refine lv_astore (lv' := [(4, .ref (q9)), (0, .ref (ad 0)), (1, .int (nI (2))), (2, .int (x)), (3, .int (y))]) hx hb dL_does_69 hl (by decide) rfl (fun ls hl => ?_)
  refine lv_ldc (own := RL) (v := (-99999)) hx hb hown (hts (.constant RL 16 (-99999)) (by decide +kernel)) dL_does_71 ?_
  exact z_iret (w := wX cI cZ ad) (S1 := S) hx hb hr hlk hF hR dL_does_73 (⟨rfl, rfl⟩)
set_option maxHeartbeats 4000000 in
set_option maxRecDepth 100000 in
theorem o_does_take_e2 {l : Launch} {D : va_G} {cI cZ : ClassId} {ad : Nat → Nat} {B : Nat → Prop} (hG : ∀ S : zS, va_D B (wX cI cZ ad S)) (hfl : l.stackTraces = false) (S : zS) (w : Nat) (y : Int32) (hO : zOK S) (hw : w < zn S 22 0) (hxb : zbad y 4) : zMC 1 6 l yL_does wsL_does ({ frames := 8, cells := 1, slots := 6, locals := 156 } : Room) [.ref (ad 0), .int (nI (2)), .int (nI (w)), .int (y)] D (zT cI cZ) B (wX cI cZ ad) S (fun (r : Int32) (S1 : zS) => r = ((-99999)) ∧ S1 = S) := by
  refine zMC_of (cc := cL_does) (maxL := 5) (ret := (some .int)) (hh := [(0, 68, 69, 14), (0, 68, 74, 19)]) (by decide) rfl (Nat.le_of_ble_eq_true rfl) ?_
  intro pg en s mm below meth cd hx hb hr hml hown hts hlk hex hF hR ls hl
  have hl : lv_has ls 5 [(0, .ref (ad 0)), (1, .int (nI (2))), (2, .int (nI (w))), (3, .int (y))] := hl
  refine lv_iload_n hx hb dL_does_0 rfl (lv_at hl 1 rfl) ?_
  refine z_if_ne_n (tgt := 12) hx hb dL_does_1 (by decide) (by omega) (fun h1_1 => ?_) (fun h1_1 => by omega)
  refine lv_iload_n hx hb dL_does_12 rfl (lv_at hl 1 rfl) ?_
  refine lv_iconst (v := (nI (1))) hx hb dL_does_13 (by decide) ?_
  refine z_ne_n (tgt := 25) hx hb dL_does_14 (by decide) (by omega) (by omega) (fun h14_2 => ?_) (fun h14_2 => by omega)
  refine lv_iload_n hx hb dL_does_25 rfl (lv_at hl 1 rfl) ?_
  refine lv_iconst (v := (nI (2))) hx hb dL_does_26 (by decide) ?_
  refine z_ne_n (tgt := 39) hx hb dL_does_27 (by decide) (by omega) (by omega) (fun h27_3 => by omega) (fun h27_3 => ?_)
  refine lv_aload_n hx hb dL_does_30 rfl (lv_at hl 0 rfl) ?_
  refine lv_iload_n hx hb dL_does_31 rfl (lv_at hl 2 rfl) ?_
  refine lv_iload_n hx hb dL_does_32 rfl (lv_at hl 3 rfl) ?_
  refine z_wV_x (As := [.int (nI (w)), .int (y)]) (rest := []) (w := wX cI cZ ad) ⟨hx, hb, hml, hown, hts⟩ hF hR (c_X4_take_e2 hG hfl S w y hO hw hxb) (cwV 2 hts gL_does_X4_take rfl rfl rfl (by decide +kernel) ⟨Nat.le_of_ble_eq_true rfl, Nat.le_of_ble_eq_true rfl⟩) (wX_c0 S) rfl rfl rfl hl rfl (Nat.le_of_ble_eq_true rfl) (by decide) dL_does_33 (fun E ce q9 H locs hp hR h1 h2 h3 => ?_)
  subst hp
  refine vx_catch (own := RL) (name := zIO) hown [] ⟨0, 68, 69, 14⟩ [⟨0, 68, 74, 19⟩] (by rw [hex]; rfl) (fun _ h => absurd h List.not_mem_nil) (by decide) (by decide) (hts (.classLink RL 14 zIO) (by decide +kernel)) (va_Nw.use rfl (hF.2.2.2.1 _ (by decide +kernel))) h1 h2 h3 ?_
  refine lv_astore (lv' := [(4, .ref (q9)), (0, .ref (ad 0)), (1, .int (nI (2))), (2, .int (nI (w))), (3, .int (y))]) hx hb dL_does_69 hl (by decide) rfl (fun ls hl => ?_)
  refine lv_ldc (own := RL) (v := (-99999)) hx hb hown (hts (.constant RL 16 (-99999)) (by decide +kernel)) dL_does_71 ?_
  exact z_iret (w := wX cI cZ ad) (S1 := S) hx hb hr hlk hF hR dL_does_73 (⟨rfl, rfl⟩)
set_option maxHeartbeats 4000000 in
set_option maxRecDepth 100000 in
theorem o_does_take_e3 {l : Launch} {D : va_G} {cI cZ : ClassId} {ad : Nat → Nat} {B : Nat → Prop} (hG : ∀ S : zS, va_D B (wX cI cZ ad S)) (hfl : l.stackTraces = false) (S : zS) (w p : Nat) (hO : zOK S) (hw : w < zn S 22 0) (hp : p < 4) (hc : ¬ zcanT S p w) : zMC 1 6 l yL_does wsL_does ({ frames := 8, cells := 1, slots := 6, locals := 156 } : Room) [.ref (ad 0), .int (nI (2)), .int (nI (w)), .int (nI (p))] D (zT cI cZ) B (wX cI cZ ad) S (fun (r : Int32) (S1 : zS) => r = ((-99999)) ∧ S1 = S) := by
  refine zMC_of (cc := cL_does) (maxL := 5) (ret := (some .int)) (hh := [(0, 68, 69, 14), (0, 68, 74, 19)]) (by decide) rfl (Nat.le_of_ble_eq_true rfl) ?_
  intro pg en s mm below meth cd hx hb hr hml hown hts hlk hex hF hR ls hl
  have hl : lv_has ls 5 [(0, .ref (ad 0)), (1, .int (nI (2))), (2, .int (nI (w))), (3, .int (nI (p)))] := hl
  refine lv_iload_n hx hb dL_does_0 rfl (lv_at hl 1 rfl) ?_
  refine z_if_ne_n (tgt := 12) hx hb dL_does_1 (by decide) (by omega) (fun h1_1 => ?_) (fun h1_1 => by omega)
  refine lv_iload_n hx hb dL_does_12 rfl (lv_at hl 1 rfl) ?_
  refine lv_iconst (v := (nI (1))) hx hb dL_does_13 (by decide) ?_
  refine z_ne_n (tgt := 25) hx hb dL_does_14 (by decide) (by omega) (by omega) (fun h14_2 => ?_) (fun h14_2 => by omega)
  refine lv_iload_n hx hb dL_does_25 rfl (lv_at hl 1 rfl) ?_
  refine lv_iconst (v := (nI (2))) hx hb dL_does_26 (by decide) ?_
  refine z_ne_n (tgt := 39) hx hb dL_does_27 (by decide) (by omega) (by omega) (fun h27_3 => by omega) (fun h27_3 => ?_)
  refine lv_aload_n hx hb dL_does_30 rfl (lv_at hl 0 rfl) ?_
  refine lv_iload_n hx hb dL_does_31 rfl (lv_at hl 2 rfl) ?_
  refine lv_iload_n hx hb dL_does_32 rfl (lv_at hl 3 rfl) ?_
  refine z_wV_x (As := [.int (nI (w)), .int (nI (p))]) (rest := []) (w := wX cI cZ ad) ⟨hx, hb, hml, hown, hts⟩ hF hR (c_X4_take_e3 hG hfl S w p hO hw hp hc) (cwV 2 hts gL_does_X4_take rfl rfl rfl (by decide +kernel) ⟨Nat.le_of_ble_eq_true rfl, Nat.le_of_ble_eq_true rfl⟩) (wX_c0 S) rfl rfl rfl hl rfl (Nat.le_of_ble_eq_true rfl) (by decide) dL_does_33 (fun E ce q9 H locs hp hR h1 h2 h3 => ?_)
  subst hp
  refine vx_catch (own := RL) (name := zIS) hown [⟨0, 68, 69, 14⟩] ⟨0, 68, 74, 19⟩ [] (by rw [hex]; rfl) (List.forall_mem_cons.mpr ⟨Or.inr ⟨by decide, zIO, hts (.classLink RL 14 zIO) (by decide +kernel), hF.2.2.2.2.1 (zIS, zIO) (by decide +kernel)⟩, (fun _ h => absurd h List.not_mem_nil)⟩) (by decide) (by decide) (hts (.classLink RL 19 zIS) (by decide +kernel)) (va_Nw.use rfl (hF.2.2.2.1 _ (by decide +kernel))) h1 h2 h3 ?_
  refine lv_astore (lv' := [(4, .ref (q9)), (0, .ref (ad 0)), (1, .int (nI (2))), (2, .int (nI (w))), (3, .int (nI (p)))]) hx hb dL_does_74 hl (by decide) rfl (fun ls hl => ?_)
  refine lv_ldc (own := RL) (v := (-99999)) hx hb hown (hts (.constant RL 16 (-99999)) (by decide +kernel)) dL_does_76 ?_
  exact z_iret (w := wX cI cZ ad) (S1 := S) hx hb hr hlk hF hR dL_does_78 (⟨rfl, rfl⟩)
set_option maxHeartbeats 4000000 in
set_option maxRecDepth 100000 in
theorem o_does_take_ok {l : Launch} {D : va_G} {cI cZ : ClassId} {ad : Nat → Nat} {B : Nat → Prop} (hG : ∀ S : zS, va_D B (wX cI cZ ad S)) (hfl : l.stackTraces = false) (S : zS) (w p : Nat) (hO : zOK S) (hw : w < zn S 22 0) (hp : p < 4) (hc : zcanT S p w) : zMC 0 0 l yL_does wsL_does ({ frames := 8, cells := 0, slots := 0, locals := 156 } : Room) [.ref (ad 0), .int (nI (2)), .int (nI (w)), .int (nI (p))] D (zT cI cZ) B (wX cI cZ ad) S (fun (r : Int32) (S1 : zS) => r = (sp_tfr S p w) ∧ S1 = sp_tf S p w) := by
  refine zMC_of (cc := cL_does) (maxL := 5) (ret := (some .int)) (hh := [(0, 68, 69, 14), (0, 68, 74, 19)]) (by decide) rfl (Nat.le_of_ble_eq_true rfl) ?_
  intro pg en s mm below meth cd hx hb hr hml hown hts hlk hex hF hR ls hl
  have hl : lv_has ls 5 [(0, .ref (ad 0)), (1, .int (nI (2))), (2, .int (nI (w))), (3, .int (nI (p)))] := hl
  refine lv_iload_n hx hb dL_does_0 rfl (lv_at hl 1 rfl) ?_
  refine z_if_ne_n (tgt := 12) hx hb dL_does_1 (by decide) (by omega) (fun h1_1 => ?_) (fun h1_1 => by omega)
  refine lv_iload_n hx hb dL_does_12 rfl (lv_at hl 1 rfl) ?_
  refine lv_iconst (v := (nI (1))) hx hb dL_does_13 (by decide) ?_
  refine z_ne_n (tgt := 25) hx hb dL_does_14 (by decide) (by omega) (by omega) (fun h14_2 => ?_) (fun h14_2 => by omega)
  refine lv_iload_n hx hb dL_does_25 rfl (lv_at hl 1 rfl) ?_
  refine lv_iconst (v := (nI (2))) hx hb dL_does_26 (by decide) ?_
  refine z_ne_n (tgt := 39) hx hb dL_does_27 (by decide) (by omega) (by omega) (fun h27_3 => by omega) (fun h27_3 => ?_)
  refine lv_aload_n hx hb dL_does_30 rfl (lv_at hl 0 rfl) ?_
  refine lv_iload_n hx hb dL_does_31 rfl (lv_at hl 2 rfl) ?_
  refine lv_iload_n hx hb dL_does_32 rfl (lv_at hl 3 rfl) ?_
  refine z_callV_i (As := [.int (nI (w)), .int (nI (p))]) (rest := []) (w := wX cI cZ ad) ⟨hx, hb, hml, hown, hts⟩ hF hR (c_X4_take_ok hG S w p hO hw hp hc) (cwV 2 hts gL_does_X4_take rfl rfl rfl (by decide +kernel) ⟨Nat.le_of_ble_eq_true rfl, Nat.le_of_ble_eq_true rfl⟩) (wX_c0 S) rfl rfl rfl hl rfl (Nat.le_of_ble_eq_true rfl) (by decide) dL_does_33 (fun r4 S4 H locs hp4 hR => ?_)
  obtain ⟨hr4, hs4⟩ := hp4
  subst r4
  subst S4
  refine lv_goto (tgt := 68) hx hb dL_does_36 (by decide) ?_
  exact z_iret (w := wX cI cZ ad) (S1 := (sp_tf S p w)) hx hb hr hlk hF hR dL_does_68 (⟨rfl, rfl⟩)
set_option maxHeartbeats 4000000 in
set_option maxRecDepth 100000 in
theorem o_does_commit_e1 {l : Launch} {D : va_G} {cI cZ : ClassId} {ad : Nat → Nat} {B : Nat → Prop} (hG : ∀ S : zS, va_D B (wX cI cZ ad S)) (hfl : l.stackTraces = false) (S : zS) (x : Int32) (hO : zOK S) (hxb : zbad x (zn S 22 0)) : zMC 1 6 l yL_does wsL_does ({ frames := 8, cells := 1, slots := 6, locals := 156 } : Room) [.ref (ad 0), .int (nI (3)), .int (x), .int (nI (0))] D (zT cI cZ) B (wX cI cZ ad) S (fun (r : Int32) (S1 : zS) => r = ((-99999)) ∧ S1 = S) := by
  refine zMC_of (cc := cL_does) (maxL := 5) (ret := (some .int)) (hh := [(0, 68, 69, 14), (0, 68, 74, 19)]) (by decide) rfl (Nat.le_of_ble_eq_true rfl) ?_
  intro pg en s mm below meth cd hx hb hr hml hown hts hlk hex hF hR ls hl
  have hl : lv_has ls 5 [(0, .ref (ad 0)), (1, .int (nI (3))), (2, .int (x)), (3, .int (nI (0)))] := hl
  refine lv_iload_n hx hb dL_does_0 rfl (lv_at hl 1 rfl) ?_
  refine z_if_ne_n (tgt := 12) hx hb dL_does_1 (by decide) (by omega) (fun h1_1 => ?_) (fun h1_1 => by omega)
  refine lv_iload_n hx hb dL_does_12 rfl (lv_at hl 1 rfl) ?_
  refine lv_iconst (v := (nI (1))) hx hb dL_does_13 (by decide) ?_
  refine z_ne_n (tgt := 25) hx hb dL_does_14 (by decide) (by omega) (by omega) (fun h14_2 => ?_) (fun h14_2 => by omega)
  refine lv_iload_n hx hb dL_does_25 rfl (lv_at hl 1 rfl) ?_
  refine lv_iconst (v := (nI (2))) hx hb dL_does_26 (by decide) ?_
  refine z_ne_n (tgt := 39) hx hb dL_does_27 (by decide) (by omega) (by omega) (fun h27_3 => ?_) (fun h27_3 => by omega)
  refine lv_iload_n hx hb dL_does_39 rfl (lv_at hl 1 rfl) ?_
  refine lv_iconst (v := (nI (3))) hx hb dL_does_40 (by decide) ?_
  refine z_ne_n (tgt := 52) hx hb dL_does_41 (by decide) (by omega) (by omega) (fun h41_4 => by omega) (fun h41_4 => ?_)
  refine lv_aload_n hx hb dL_does_44 rfl (lv_at hl 0 rfl) ?_
  refine lv_iload_n hx hb dL_does_45 rfl (lv_at hl 2 rfl) ?_
  refine z_wV_x (As := [.int (x)]) (rest := []) (w := wX cI cZ ad) ⟨hx, hb, hml, hown, hts⟩ hF hR (c_X4_commit_e1 hG hfl S x hO hxb) (cwV 1 hts gL_does_X4_commit rfl rfl rfl (by decide +kernel) ⟨Nat.le_of_ble_eq_true rfl, Nat.le_of_ble_eq_true rfl⟩) (wX_c0 S) rfl rfl rfl hl rfl (Nat.le_of_ble_eq_true rfl) (by decide) dL_does_46 (fun E ce q9 H locs hp hR h1 h2 h3 => ?_)
  subst hp
  refine vx_catch (own := RL) (name := zIO) hown [] ⟨0, 68, 69, 14⟩ [⟨0, 68, 74, 19⟩] (by rw [hex]; rfl) (fun _ h => absurd h List.not_mem_nil) (by decide) (by decide) (hts (.classLink RL 14 zIO) (by decide +kernel)) (va_Nw.use rfl (hF.2.2.2.1 _ (by decide +kernel))) h1 h2 h3 ?_
  refine lv_astore (lv' := [(4, .ref (q9)), (0, .ref (ad 0)), (1, .int (nI (3))), (2, .int (x)), (3, .int (nI (0)))]) hx hb dL_does_69 hl (by decide) rfl (fun ls hl => ?_)
  refine lv_ldc (own := RL) (v := (-99999)) hx hb hown (hts (.constant RL 16 (-99999)) (by decide +kernel)) dL_does_71 ?_
  exact z_iret (w := wX cI cZ ad) (S1 := S) hx hb hr hlk hF hR dL_does_73 (⟨rfl, rfl⟩)
set_option maxHeartbeats 4000000 in
set_option maxRecDepth 100000 in
theorem o_does_commit_e2 {l : Launch} {D : va_G} {cI cZ : ClassId} {ad : Nat → Nat} {B : Nat → Prop} (hG : ∀ S : zS, va_D B (wX cI cZ ad S)) (hfl : l.stackTraces = false) (S : zS) (w : Nat) (hO : zOK S) (hw : w < zn S 22 0) (hc : ¬ zrdy S w) : zMC 1 6 l yL_does wsL_does ({ frames := 8, cells := 1, slots := 6, locals := 156 } : Room) [.ref (ad 0), .int (nI (3)), .int (nI (w)), .int (nI (0))] D (zT cI cZ) B (wX cI cZ ad) S (fun (r : Int32) (S1 : zS) => r = ((-99999)) ∧ S1 = S) := by
  refine zMC_of (cc := cL_does) (maxL := 5) (ret := (some .int)) (hh := [(0, 68, 69, 14), (0, 68, 74, 19)]) (by decide) rfl (Nat.le_of_ble_eq_true rfl) ?_
  intro pg en s mm below meth cd hx hb hr hml hown hts hlk hex hF hR ls hl
  have hl : lv_has ls 5 [(0, .ref (ad 0)), (1, .int (nI (3))), (2, .int (nI (w))), (3, .int (nI (0)))] := hl
  refine lv_iload_n hx hb dL_does_0 rfl (lv_at hl 1 rfl) ?_
  refine z_if_ne_n (tgt := 12) hx hb dL_does_1 (by decide) (by omega) (fun h1_1 => ?_) (fun h1_1 => by omega)
  refine lv_iload_n hx hb dL_does_12 rfl (lv_at hl 1 rfl) ?_
  refine lv_iconst (v := (nI (1))) hx hb dL_does_13 (by decide) ?_
  refine z_ne_n (tgt := 25) hx hb dL_does_14 (by decide) (by omega) (by omega) (fun h14_2 => ?_) (fun h14_2 => by omega)
  refine lv_iload_n hx hb dL_does_25 rfl (lv_at hl 1 rfl) ?_
  refine lv_iconst (v := (nI (2))) hx hb dL_does_26 (by decide) ?_
  refine z_ne_n (tgt := 39) hx hb dL_does_27 (by decide) (by omega) (by omega) (fun h27_3 => ?_) (fun h27_3 => by omega)
  refine lv_iload_n hx hb dL_does_39 rfl (lv_at hl 1 rfl) ?_
  refine lv_iconst (v := (nI (3))) hx hb dL_does_40 (by decide) ?_
  refine z_ne_n (tgt := 52) hx hb dL_does_41 (by decide) (by omega) (by omega) (fun h41_4 => by omega) (fun h41_4 => ?_)
  refine lv_aload_n hx hb dL_does_44 rfl (lv_at hl 0 rfl) ?_
  refine lv_iload_n hx hb dL_does_45 rfl (lv_at hl 2 rfl) ?_
  refine z_wV_x (As := [.int (nI (w))]) (rest := []) (w := wX cI cZ ad) ⟨hx, hb, hml, hown, hts⟩ hF hR (c_X4_commit_e2 hG hfl S w hO hw hc) (cwV 1 hts gL_does_X4_commit rfl rfl rfl (by decide +kernel) ⟨Nat.le_of_ble_eq_true rfl, Nat.le_of_ble_eq_true rfl⟩) (wX_c0 S) rfl rfl rfl hl rfl (Nat.le_of_ble_eq_true rfl) (by decide) dL_does_46 (fun E ce q9 H locs hp hR h1 h2 h3 => ?_)
  subst hp
  refine vx_catch (own := RL) (name := zIS) hown [⟨0, 68, 69, 14⟩] ⟨0, 68, 74, 19⟩ [] (by rw [hex]; rfl) (List.forall_mem_cons.mpr ⟨Or.inr ⟨by decide, zIO, hts (.classLink RL 14 zIO) (by decide +kernel), hF.2.2.2.2.1 (zIS, zIO) (by decide +kernel)⟩, (fun _ h => absurd h List.not_mem_nil)⟩) (by decide) (by decide) (hts (.classLink RL 19 zIS) (by decide +kernel)) (va_Nw.use rfl (hF.2.2.2.1 _ (by decide +kernel))) h1 h2 h3 ?_
  refine lv_astore (lv' := [(4, .ref (q9)), (0, .ref (ad 0)), (1, .int (nI (3))), (2, .int (nI (w))), (3, .int (nI (0)))]) hx hb dL_does_74 hl (by decide) rfl (fun ls hl => ?_)
  refine lv_ldc (own := RL) (v := (-99999)) hx hb hown (hts (.constant RL 16 (-99999)) (by decide +kernel)) dL_does_76 ?_
  exact z_iret (w := wX cI cZ ad) (S1 := S) hx hb hr hlk hF hR dL_does_78 (⟨rfl, rfl⟩)
set_option maxHeartbeats 4000000 in
set_option maxRecDepth 100000 in
theorem o_does_commit_ok {l : Launch} {D : va_G} {cI cZ : ClassId} {ad : Nat → Nat} {B : Nat → Prop} (hG : ∀ S : zS, va_D B (wX cI cZ ad S)) (hfl : l.stackTraces = false) (S : zS) (w : Nat) (hO : zOK S) (hw : w < zn S 22 0) (hc : zrdy S w) : zMC 0 0 l yL_does wsL_does ({ frames := 8, cells := 0, slots := 0, locals := 156 } : Room) [.ref (ad 0), .int (nI (3)), .int (nI (w)), .int (nI (0))] D (zT cI cZ) B (wX cI cZ ad) S (fun (r : Int32) (S1 : zS) => r = (sp_comr S w) ∧ S1 = sp_com S w) := by
  refine zMC_of (cc := cL_does) (maxL := 5) (ret := (some .int)) (hh := [(0, 68, 69, 14), (0, 68, 74, 19)]) (by decide) rfl (Nat.le_of_ble_eq_true rfl) ?_
  intro pg en s mm below meth cd hx hb hr hml hown hts hlk hex hF hR ls hl
  have hl : lv_has ls 5 [(0, .ref (ad 0)), (1, .int (nI (3))), (2, .int (nI (w))), (3, .int (nI (0)))] := hl
  refine lv_iload_n hx hb dL_does_0 rfl (lv_at hl 1 rfl) ?_
  refine z_if_ne_n (tgt := 12) hx hb dL_does_1 (by decide) (by omega) (fun h1_1 => ?_) (fun h1_1 => by omega)
  refine lv_iload_n hx hb dL_does_12 rfl (lv_at hl 1 rfl) ?_
  refine lv_iconst (v := (nI (1))) hx hb dL_does_13 (by decide) ?_
  refine z_ne_n (tgt := 25) hx hb dL_does_14 (by decide) (by omega) (by omega) (fun h14_2 => ?_) (fun h14_2 => by omega)
  refine lv_iload_n hx hb dL_does_25 rfl (lv_at hl 1 rfl) ?_
  refine lv_iconst (v := (nI (2))) hx hb dL_does_26 (by decide) ?_
  refine z_ne_n (tgt := 39) hx hb dL_does_27 (by decide) (by omega) (by omega) (fun h27_3 => ?_) (fun h27_3 => by omega)
  refine lv_iload_n hx hb dL_does_39 rfl (lv_at hl 1 rfl) ?_
  refine lv_iconst (v := (nI (3))) hx hb dL_does_40 (by decide) ?_
  refine z_ne_n (tgt := 52) hx hb dL_does_41 (by decide) (by omega) (by omega) (fun h41_4 => by omega) (fun h41_4 => ?_)
  refine lv_aload_n hx hb dL_does_44 rfl (lv_at hl 0 rfl) ?_
  refine lv_iload_n hx hb dL_does_45 rfl (lv_at hl 2 rfl) ?_
  refine z_callV_i (As := [.int (nI (w))]) (rest := []) (w := wX cI cZ ad) ⟨hx, hb, hml, hown, hts⟩ hF hR (c_X4_commit_ok hG S w hO hw hc) (cwV 1 hts gL_does_X4_commit rfl rfl rfl (by decide +kernel) ⟨Nat.le_of_ble_eq_true rfl, Nat.le_of_ble_eq_true rfl⟩) (wX_c0 S) rfl rfl rfl hl rfl (Nat.le_of_ble_eq_true rfl) (by decide) dL_does_46 (fun r5 S5 H locs hp5 hR => ?_)
  obtain ⟨hr5, hs5⟩ := hp5
  subst r5
  subst S5
  refine lv_goto (tgt := 68) hx hb dL_does_49 (by decide) ?_
  exact z_iret (w := wX cI cZ ad) (S1 := (sp_com S w)) hx hb hr hlk hF hR dL_does_68 (⟨rfl, rfl⟩)
set_option maxHeartbeats 4000000 in
set_option maxRecDepth 100000 in
theorem o_does_beginCheckpoint_e1 {l : Launch} {D : va_G} {cI cZ : ClassId} {ad : Nat → Nat} {B : Nat → Prop} (hG : ∀ S : zS, va_D B (wX cI cZ ad S)) (hfl : l.stackTraces = false) (S : zS) (hO : zOK S) (hc : ¬ S 22 2 = (-1) ∨ ¬ ∀ w, w < zn S 22 0 → S 21 w = (-1)) : zMC 1 6 l yL_does wsL_does ({ frames := 8, cells := 1, slots := 6, locals := 156 } : Room) [.ref (ad 0), .int (nI (4)), .int (nI (0)), .int (nI (0))] D (zT cI cZ) B (wX cI cZ ad) S (fun (r : Int32) (S1 : zS) => r = ((-99999)) ∧ S1 = S) := by
  refine zMC_of (cc := cL_does) (maxL := 5) (ret := (some .int)) (hh := [(0, 68, 69, 14), (0, 68, 74, 19)]) (by decide) rfl (Nat.le_of_ble_eq_true rfl) ?_
  intro pg en s mm below meth cd hx hb hr hml hown hts hlk hex hF hR ls hl
  have hl : lv_has ls 5 [(0, .ref (ad 0)), (1, .int (nI (4))), (2, .int (nI (0))), (3, .int (nI (0)))] := hl
  refine lv_iload_n hx hb dL_does_0 rfl (lv_at hl 1 rfl) ?_
  refine z_if_ne_n (tgt := 12) hx hb dL_does_1 (by decide) (by omega) (fun h1_1 => ?_) (fun h1_1 => by omega)
  refine lv_iload_n hx hb dL_does_12 rfl (lv_at hl 1 rfl) ?_
  refine lv_iconst (v := (nI (1))) hx hb dL_does_13 (by decide) ?_
  refine z_ne_n (tgt := 25) hx hb dL_does_14 (by decide) (by omega) (by omega) (fun h14_2 => ?_) (fun h14_2 => by omega)
  refine lv_iload_n hx hb dL_does_25 rfl (lv_at hl 1 rfl) ?_
  refine lv_iconst (v := (nI (2))) hx hb dL_does_26 (by decide) ?_
  refine z_ne_n (tgt := 39) hx hb dL_does_27 (by decide) (by omega) (by omega) (fun h27_3 => ?_) (fun h27_3 => by omega)
  refine lv_iload_n hx hb dL_does_39 rfl (lv_at hl 1 rfl) ?_
  refine lv_iconst (v := (nI (3))) hx hb dL_does_40 (by decide) ?_
  refine z_ne_n (tgt := 52) hx hb dL_does_41 (by decide) (by omega) (by omega) (fun h41_4 => ?_) (fun h41_4 => by omega)
  refine lv_iload_n hx hb dL_does_52 rfl (lv_at hl 1 rfl) ?_
  refine lv_iconst (v := (nI (4))) hx hb dL_does_53 (by decide) ?_
  refine z_ne_n (tgt := 64) hx hb dL_does_54 (by decide) (by omega) (by omega) (fun h54_5 => by omega) (fun h54_5 => ?_)
  refine lv_aload_n hx hb dL_does_57 rfl (lv_at hl 0 rfl) ?_
  refine z_wV_x (As := []) (rest := []) (w := wX cI cZ ad) ⟨hx, hb, hml, hown, hts⟩ hF hR (c_X4_beginCheckpoint_e1 hG hfl S hO hc) (cwV 0 hts gL_does_X4_beginCheckpoint rfl rfl rfl (by decide +kernel) ⟨Nat.le_of_ble_eq_true rfl, Nat.le_of_ble_eq_true rfl⟩) (wX_c0 S) rfl rfl rfl hl rfl (Nat.le_of_ble_eq_true rfl) (by decide) dL_does_58 (fun E ce q9 H locs hp hR h1 h2 h3 => ?_)
  subst hp
  refine vx_catch (own := RL) (name := zIS) hown [⟨0, 68, 69, 14⟩] ⟨0, 68, 74, 19⟩ [] (by rw [hex]; rfl) (List.forall_mem_cons.mpr ⟨Or.inr ⟨by decide, zIO, hts (.classLink RL 14 zIO) (by decide +kernel), hF.2.2.2.2.1 (zIS, zIO) (by decide +kernel)⟩, (fun _ h => absurd h List.not_mem_nil)⟩) (by decide) (by decide) (hts (.classLink RL 19 zIS) (by decide +kernel)) (va_Nw.use rfl (hF.2.2.2.1 _ (by decide +kernel))) h1 h2 h3 ?_
  refine lv_astore (lv' := [(4, .ref (q9)), (0, .ref (ad 0)), (1, .int (nI (4))), (2, .int (nI (0))), (3, .int (nI (0)))]) hx hb dL_does_74 hl (by decide) rfl (fun ls hl => ?_)
  refine lv_ldc (own := RL) (v := (-99999)) hx hb hown (hts (.constant RL 16 (-99999)) (by decide +kernel)) dL_does_76 ?_
  exact z_iret (w := wX cI cZ ad) (S1 := S) hx hb hr hlk hF hR dL_does_78 (⟨rfl, rfl⟩)
set_option maxHeartbeats 4000000 in
set_option maxRecDepth 100000 in
theorem o_does_beginCheckpoint_ok {l : Launch} {D : va_G} {cI cZ : ClassId} {ad : Nat → Nat} {B : Nat → Prop} (hG : ∀ S : zS, va_D B (wX cI cZ ad S)) (hfl : l.stackTraces = false) (S : zS) (hO : zOK S) (hc1 : S 22 2 = (-1)) (hc : ∀ w, w < zn S 22 0 → S 21 w = (-1)) : zMC 0 0 l yL_does wsL_does ({ frames := 8, cells := 0, slots := 0, locals := 156 } : Room) [.ref (ad 0), .int (nI (4)), .int (nI (0)), .int (nI (0))] D (zT cI cZ) B (wX cI cZ ad) S (fun (r : Int32) (S1 : zS) => r = (S 22 1 + nI 1) ∧ S1 = sp_beg S) := by
  refine zMC_of (cc := cL_does) (maxL := 5) (ret := (some .int)) (hh := [(0, 68, 69, 14), (0, 68, 74, 19)]) (by decide) rfl (Nat.le_of_ble_eq_true rfl) ?_
  intro pg en s mm below meth cd hx hb hr hml hown hts hlk hex hF hR ls hl
  have hl : lv_has ls 5 [(0, .ref (ad 0)), (1, .int (nI (4))), (2, .int (nI (0))), (3, .int (nI (0)))] := hl
  refine lv_iload_n hx hb dL_does_0 rfl (lv_at hl 1 rfl) ?_
  refine z_if_ne_n (tgt := 12) hx hb dL_does_1 (by decide) (by omega) (fun h1_1 => ?_) (fun h1_1 => by omega)
  refine lv_iload_n hx hb dL_does_12 rfl (lv_at hl 1 rfl) ?_
  refine lv_iconst (v := (nI (1))) hx hb dL_does_13 (by decide) ?_
  refine z_ne_n (tgt := 25) hx hb dL_does_14 (by decide) (by omega) (by omega) (fun h14_2 => ?_) (fun h14_2 => by omega)
  refine lv_iload_n hx hb dL_does_25 rfl (lv_at hl 1 rfl) ?_
  refine lv_iconst (v := (nI (2))) hx hb dL_does_26 (by decide) ?_
  refine z_ne_n (tgt := 39) hx hb dL_does_27 (by decide) (by omega) (by omega) (fun h27_3 => ?_) (fun h27_3 => by omega)
  refine lv_iload_n hx hb dL_does_39 rfl (lv_at hl 1 rfl) ?_
  refine lv_iconst (v := (nI (3))) hx hb dL_does_40 (by decide) ?_
  refine z_ne_n (tgt := 52) hx hb dL_does_41 (by decide) (by omega) (by omega) (fun h41_4 => ?_) (fun h41_4 => by omega)
  refine lv_iload_n hx hb dL_does_52 rfl (lv_at hl 1 rfl) ?_
  refine lv_iconst (v := (nI (4))) hx hb dL_does_53 (by decide) ?_
  refine z_ne_n (tgt := 64) hx hb dL_does_54 (by decide) (by omega) (by omega) (fun h54_5 => by omega) (fun h54_5 => ?_)
  refine lv_aload_n hx hb dL_does_57 rfl (lv_at hl 0 rfl) ?_
  refine z_callV_i (As := []) (rest := []) (w := wX cI cZ ad) ⟨hx, hb, hml, hown, hts⟩ hF hR (c_X4_beginCheckpoint_ok hG S hO hc1 hc) (cwV 0 hts gL_does_X4_beginCheckpoint rfl rfl rfl (by decide +kernel) ⟨Nat.le_of_ble_eq_true rfl, Nat.le_of_ble_eq_true rfl⟩) (wX_c0 S) rfl rfl rfl hl rfl (Nat.le_of_ble_eq_true rfl) (by decide) dL_does_58 (fun r6 S6 H locs hp6 hR => ?_)
  obtain ⟨hr6, hs6⟩ := hp6
  subst r6
  subst S6
  refine lv_goto (tgt := 68) hx hb dL_does_61 (by decide) ?_
  exact z_iret (w := wX cI cZ ad) (S1 := (sp_beg S)) hx hb hr hlk hF hR dL_does_68 (⟨rfl, rfl⟩)
set_option maxHeartbeats 4000000 in
set_option maxRecDepth 100000 in
theorem o_does_abandon_e1 {l : Launch} {D : va_G} {cI cZ : ClassId} {ad : Nat → Nat} {B : Nat → Prop} (hG : ∀ S : zS, va_D B (wX cI cZ ad S)) (hfl : l.stackTraces = false) (S : zS) (hO : zOK S) (hc : S 22 2 = (-1)) : zMC 1 6 l yL_does wsL_does ({ frames := 8, cells := 1, slots := 6, locals := 156 } : Room) [.ref (ad 0), .int (nI (5)), .int (nI (0)), .int (nI (0))] D (zT cI cZ) B (wX cI cZ ad) S (fun (r : Int32) (S1 : zS) => r = ((-99999)) ∧ S1 = S) := by
  refine zMC_of (cc := cL_does) (maxL := 5) (ret := (some .int)) (hh := [(0, 68, 69, 14), (0, 68, 74, 19)]) (by decide) rfl (Nat.le_of_ble_eq_true rfl) ?_
  intro pg en s mm below meth cd hx hb hr hml hown hts hlk hex hF hR ls hl
  have hl : lv_has ls 5 [(0, .ref (ad 0)), (1, .int (nI (5))), (2, .int (nI (0))), (3, .int (nI (0)))] := hl
  refine lv_iload_n hx hb dL_does_0 rfl (lv_at hl 1 rfl) ?_
  refine z_if_ne_n (tgt := 12) hx hb dL_does_1 (by decide) (by omega) (fun h1_1 => ?_) (fun h1_1 => by omega)
  refine lv_iload_n hx hb dL_does_12 rfl (lv_at hl 1 rfl) ?_
  refine lv_iconst (v := (nI (1))) hx hb dL_does_13 (by decide) ?_
  refine z_ne_n (tgt := 25) hx hb dL_does_14 (by decide) (by omega) (by omega) (fun h14_2 => ?_) (fun h14_2 => by omega)
  refine lv_iload_n hx hb dL_does_25 rfl (lv_at hl 1 rfl) ?_
  refine lv_iconst (v := (nI (2))) hx hb dL_does_26 (by decide) ?_
  refine z_ne_n (tgt := 39) hx hb dL_does_27 (by decide) (by omega) (by omega) (fun h27_3 => ?_) (fun h27_3 => by omega)
  refine lv_iload_n hx hb dL_does_39 rfl (lv_at hl 1 rfl) ?_
  refine lv_iconst (v := (nI (3))) hx hb dL_does_40 (by decide) ?_
  refine z_ne_n (tgt := 52) hx hb dL_does_41 (by decide) (by omega) (by omega) (fun h41_4 => ?_) (fun h41_4 => by omega)
  refine lv_iload_n hx hb dL_does_52 rfl (lv_at hl 1 rfl) ?_
  refine lv_iconst (v := (nI (4))) hx hb dL_does_53 (by decide) ?_
  refine z_ne_n (tgt := 64) hx hb dL_does_54 (by decide) (by omega) (by omega) (fun h54_5 => ?_) (fun h54_5 => by omega)
  refine lv_aload_n hx hb dL_does_64 rfl (lv_at hl 0 rfl) ?_
  refine z_wV_x (As := []) (rest := []) (w := wX cI cZ ad) ⟨hx, hb, hml, hown, hts⟩ hF hR (c_X4_abandon_e1 hG hfl S hO hc) (cwV 0 hts gL_does_X4_abandon rfl rfl rfl (by decide +kernel) ⟨Nat.le_of_ble_eq_true rfl, Nat.le_of_ble_eq_true rfl⟩) (wX_c0 S) rfl rfl rfl hl rfl (Nat.le_of_ble_eq_true rfl) (by decide) dL_does_65 (fun E ce q9 H locs hp hR h1 h2 h3 => ?_)
  subst hp
  refine vx_catch (own := RL) (name := zIS) hown [⟨0, 68, 69, 14⟩] ⟨0, 68, 74, 19⟩ [] (by rw [hex]; rfl) (List.forall_mem_cons.mpr ⟨Or.inr ⟨by decide, zIO, hts (.classLink RL 14 zIO) (by decide +kernel), hF.2.2.2.2.1 (zIS, zIO) (by decide +kernel)⟩, (fun _ h => absurd h List.not_mem_nil)⟩) (by decide) (by decide) (hts (.classLink RL 19 zIS) (by decide +kernel)) (va_Nw.use rfl (hF.2.2.2.1 _ (by decide +kernel))) h1 h2 h3 ?_
  refine lv_astore (lv' := [(4, .ref (q9)), (0, .ref (ad 0)), (1, .int (nI (5))), (2, .int (nI (0))), (3, .int (nI (0)))]) hx hb dL_does_74 hl (by decide) rfl (fun ls hl => ?_)
  refine lv_ldc (own := RL) (v := (-99999)) hx hb hown (hts (.constant RL 16 (-99999)) (by decide +kernel)) dL_does_76 ?_
  exact z_iret (w := wX cI cZ ad) (S1 := S) hx hb hr hlk hF hR dL_does_78 (⟨rfl, rfl⟩)
set_option maxHeartbeats 4000000 in
set_option maxRecDepth 100000 in
theorem o_does_abandon_ok {l : Launch} {D : va_G} {cI cZ : ClassId} {ad : Nat → Nat} {B : Nat → Prop} (hG : ∀ S : zS, va_D B (wX cI cZ ad S)) (hfl : l.stackTraces = false) (S : zS) (hO : zOK S) (hc : ¬ S 22 2 = (-1)) : zMC 0 0 l yL_does wsL_does ({ frames := 8, cells := 0, slots := 0, locals := 156 } : Room) [.ref (ad 0), .int (nI (5)), .int (nI (0)), .int (nI (0))] D (zT cI cZ) B (wX cI cZ ad) S (fun (r : Int32) (S1 : zS) => r = (S 22 2) ∧ S1 = sp_ab S) := by
  refine zMC_of (cc := cL_does) (maxL := 5) (ret := (some .int)) (hh := [(0, 68, 69, 14), (0, 68, 74, 19)]) (by decide) rfl (Nat.le_of_ble_eq_true rfl) ?_
  intro pg en s mm below meth cd hx hb hr hml hown hts hlk hex hF hR ls hl
  have hl : lv_has ls 5 [(0, .ref (ad 0)), (1, .int (nI (5))), (2, .int (nI (0))), (3, .int (nI (0)))] := hl
  refine lv_iload_n hx hb dL_does_0 rfl (lv_at hl 1 rfl) ?_
  refine z_if_ne_n (tgt := 12) hx hb dL_does_1 (by decide) (by omega) (fun h1_1 => ?_) (fun h1_1 => by omega)
  refine lv_iload_n hx hb dL_does_12 rfl (lv_at hl 1 rfl) ?_
  refine lv_iconst (v := (nI (1))) hx hb dL_does_13 (by decide) ?_
  refine z_ne_n (tgt := 25) hx hb dL_does_14 (by decide) (by omega) (by omega) (fun h14_2 => ?_) (fun h14_2 => by omega)
  refine lv_iload_n hx hb dL_does_25 rfl (lv_at hl 1 rfl) ?_
  refine lv_iconst (v := (nI (2))) hx hb dL_does_26 (by decide) ?_
  refine z_ne_n (tgt := 39) hx hb dL_does_27 (by decide) (by omega) (by omega) (fun h27_3 => ?_) (fun h27_3 => by omega)
  refine lv_iload_n hx hb dL_does_39 rfl (lv_at hl 1 rfl) ?_
  refine lv_iconst (v := (nI (3))) hx hb dL_does_40 (by decide) ?_
  refine z_ne_n (tgt := 52) hx hb dL_does_41 (by decide) (by omega) (by omega) (fun h41_4 => ?_) (fun h41_4 => by omega)
  refine lv_iload_n hx hb dL_does_52 rfl (lv_at hl 1 rfl) ?_
  refine lv_iconst (v := (nI (4))) hx hb dL_does_53 (by decide) ?_
  refine z_ne_n (tgt := 64) hx hb dL_does_54 (by decide) (by omega) (by omega) (fun h54_5 => ?_) (fun h54_5 => by omega)
  refine lv_aload_n hx hb dL_does_64 rfl (lv_at hl 0 rfl) ?_
  refine z_callV_i (As := []) (rest := []) (w := wX cI cZ ad) ⟨hx, hb, hml, hown, hts⟩ hF hR (c_X4_abandon_ok hG S hO hc) (cwV 0 hts gL_does_X4_abandon rfl rfl rfl (by decide +kernel) ⟨Nat.le_of_ble_eq_true rfl, Nat.le_of_ble_eq_true rfl⟩) (wX_c0 S) rfl rfl rfl hl rfl (Nat.le_of_ble_eq_true rfl) (by decide) dL_does_65 (fun r6 S6 H locs hp6 hR => ?_)
  obtain ⟨hr6, hs6⟩ := hp6
  subst r6
  subst S6
  exact z_iret (w := wX cI cZ ad) (S1 := (sp_ab S)) hx hb hr hlk hF hR dL_does_68 (⟨rfl, rfl⟩)
set_option maxHeartbeats 4000000 in
set_option maxRecDepth 100000 in
theorem o_goes_pump_e1 {l : Launch} {D : va_G} {cI cZ : ClassId} {ad : Nat → Nat} {B : Nat → Prop} (hG : ∀ S : zS, va_D B (wX cI cZ ad S)) (hfl : l.stackTraces = false) (S : zS) (z : Int32) (hO : zOK S) (hz : zbadv z 1 20) : zMC 1 6 l yL_goes wsL_goes ({ frames := 8, cells := 1, slots := 6, locals := 180 } : Room) [.ref (ad 0), .int (nI (0)), .int (z)] D (zT cI cZ) B (wX cI cZ ad) S (fun (r : Int32) (S1 : zS) => r = ((-99999)) ∧ S1 = S) := by
  refine zMC_of (cc := cL_goes) (maxL := 4) (ret := (some .int)) (hh := [(0, 17, 18, 17)]) (by decide) rfl (Nat.le_of_ble_eq_true rfl) ?_
  intro pg en s mm below meth cd hx hb hr hml hown hts hlk hex hF hR ls hl
  have hl : lv_has ls 4 [(0, .ref (ad 0)), (1, .int (nI (0))), (2, .int (z))] := hl
  refine lv_iload_n hx hb dL_goes_0 rfl (lv_at hl 1 rfl) ?_
  refine z_if_ne_n (tgt := 12) hx hb dL_goes_1 (by decide) (by omega) (fun h1_1 => by omega) (fun h1_1 => ?_)
  refine lv_aload_n hx hb dL_goes_4 rfl (lv_at hl 0 rfl) ?_
  refine lv_iload_n hx hb dL_goes_5 rfl (lv_at hl 2 rfl) ?_
  refine z_wV_x (As := [.int (z)]) (rest := []) (w := wX cI cZ ad) ⟨hx, hb, hml, hown, hts⟩ hF hR (c_X4_pump_e1 hG hfl S z hO hz) (cwV 1 hts gL_goes_X4_pump rfl rfl rfl (by decide +kernel) ⟨Nat.le_of_ble_eq_true rfl, Nat.le_of_ble_eq_true rfl⟩) (wX_c0 S) rfl rfl rfl hl rfl (Nat.le_of_ble_eq_true rfl) (by decide) dL_goes_6 (fun E ce q9 H locs hp hR h1 h2 h3 => ?_)
  subst hp
  refine vx_catch (own := RL) (name := zIA) hown [] ⟨0, 17, 18, 17⟩ [] (by rw [hex]; rfl) (fun _ h => absurd h List.not_mem_nil) (by decide) (by decide) (hts (.classLink RL 17 zIA) (by decide +kernel)) (va_Nw.use rfl (hF.2.2.2.1 _ (by decide +kernel))) h1 h2 h3 ?_
  refine lv_astore_n (lv' := [(3, .ref (q9)), (0, .ref (ad 0)), (1, .int (nI (0))), (2, .int (z))]) hx hb dL_goes_18 rfl hl (by decide) rfl (fun ls hl => ?_)
  refine lv_ldc (own := RL) (v := (-99999)) hx hb hown (hts (.constant RL 16 (-99999)) (by decide +kernel)) dL_goes_19 ?_
  exact z_iret (w := wX cI cZ ad) (S1 := S) hx hb hr hlk hF hR dL_goes_21 (⟨rfl, rfl⟩)
set_option maxHeartbeats 4000000 in
set_option maxRecDepth 100000 in
theorem o_goes_pump_ok {l : Launch} {D : va_G} {cI cZ : ClassId} {ad : Nat → Nat} {B : Nat → Prop} (hG : ∀ S : zS, va_D B (wX cI cZ ad S)) (hfl : l.stackTraces = false) (S : zS) (t : Nat) (hO : zOK S) (hv : 1 ≤ t) (hv2 : t ≤ 20) : zMC 0 0 l yL_goes wsL_goes ({ frames := 8, cells := 0, slots := 0, locals := 180 } : Room) [.ref (ad 0), .int (nI (0)), .int (nI (t))] D (zT cI cZ) B (wX cI cZ ad) S (fun (r : Int32) (S1 : zS) => r = (nI (sp_pmc S t)) ∧ S1 = sp_pm S t) := by
  refine zMC_of (cc := cL_goes) (maxL := 4) (ret := (some .int)) (hh := [(0, 17, 18, 17)]) (by decide) rfl (Nat.le_of_ble_eq_true rfl) ?_
  intro pg en s mm below meth cd hx hb hr hml hown hts hlk hex hF hR ls hl
  have hl : lv_has ls 4 [(0, .ref (ad 0)), (1, .int (nI (0))), (2, .int (nI (t)))] := hl
  refine lv_iload_n hx hb dL_goes_0 rfl (lv_at hl 1 rfl) ?_
  refine z_if_ne_n (tgt := 12) hx hb dL_goes_1 (by decide) (by omega) (fun h1_1 => by omega) (fun h1_1 => ?_)
  refine lv_aload_n hx hb dL_goes_4 rfl (lv_at hl 0 rfl) ?_
  refine lv_iload_n hx hb dL_goes_5 rfl (lv_at hl 2 rfl) ?_
  refine z_callV_i (As := [.int (nI (t))]) (rest := []) (w := wX cI cZ ad) ⟨hx, hb, hml, hown, hts⟩ hF hR (c_X4_pump_ok hG S t hO hv hv2) (cwV 1 hts gL_goes_X4_pump rfl rfl rfl (by decide +kernel) ⟨Nat.le_of_ble_eq_true rfl, Nat.le_of_ble_eq_true rfl⟩) (wX_c0 S) rfl rfl rfl hl rfl (Nat.le_of_ble_eq_true rfl) (by decide) dL_goes_6 (fun r2 S2 H locs hp2 hR => ?_)
  obtain ⟨hr2, hs2⟩ := hp2
  subst r2
  subst S2
  refine lv_goto (tgt := 17) hx hb dL_goes_9 (by decide) ?_
  exact z_iret (w := wX cI cZ ad) (S1 := (sp_pm S t)) hx hb hr hlk hF hR dL_goes_17 (⟨rfl, rfl⟩)
set_option maxHeartbeats 4000000 in
set_option maxRecDepth 100000 in
theorem o_goes_rescale_e1 {l : Launch} {D : va_G} {cI cZ : ClassId} {ad : Nat → Nat} {B : Nat → Prop} (hG : ∀ S : zS, va_D B (wX cI cZ ad S)) (hfl : l.stackTraces = false) (S : zS) (z : Int32) (hO : zOK S) (hz : zbadv z 1 4) : zMC 1 6 l yL_goes wsL_goes ({ frames := 8, cells := 1, slots := 6, locals := 180 } : Room) [.ref (ad 0), .int (nI (1)), .int (z)] D (zT cI cZ) B (wX cI cZ ad) S (fun (r : Int32) (S1 : zS) => r = ((-99999)) ∧ S1 = S) := by
  refine zMC_of (cc := cL_goes) (maxL := 4) (ret := (some .int)) (hh := [(0, 17, 18, 17)]) (by decide) rfl (Nat.le_of_ble_eq_true rfl) ?_
  intro pg en s mm below meth cd hx hb hr hml hown hts hlk hex hF hR ls hl
  have hl : lv_has ls 4 [(0, .ref (ad 0)), (1, .int (nI (1))), (2, .int (z))] := hl
  refine lv_iload_n hx hb dL_goes_0 rfl (lv_at hl 1 rfl) ?_
  refine z_if_ne_n (tgt := 12) hx hb dL_goes_1 (by decide) (by omega) (fun h1_1 => ?_) (fun h1_1 => by omega)
  refine lv_aload_n hx hb dL_goes_12 rfl (lv_at hl 0 rfl) ?_
  refine lv_iload_n hx hb dL_goes_13 rfl (lv_at hl 2 rfl) ?_
  refine z_wV_x (As := [.int (z)]) (rest := []) (w := wX cI cZ ad) ⟨hx, hb, hml, hown, hts⟩ hF hR (c_X4_rescale_e1 hG hfl S z hO hz) (cwV 1 hts gL_goes_X4_rescale rfl rfl rfl (by decide +kernel) ⟨Nat.le_of_ble_eq_true rfl, Nat.le_of_ble_eq_true rfl⟩) (wX_c0 S) rfl rfl rfl hl rfl (Nat.le_of_ble_eq_true rfl) (by decide) dL_goes_14 (fun E ce q9 H locs hp hR h1 h2 h3 => ?_)
  subst hp
  refine vx_catch (own := RL) (name := zIA) hown [] ⟨0, 17, 18, 17⟩ [] (by rw [hex]; rfl) (fun _ h => absurd h List.not_mem_nil) (by decide) (by decide) (hts (.classLink RL 17 zIA) (by decide +kernel)) (va_Nw.use rfl (hF.2.2.2.1 _ (by decide +kernel))) h1 h2 h3 ?_
  refine lv_astore_n (lv' := [(3, .ref (q9)), (0, .ref (ad 0)), (1, .int (nI (1))), (2, .int (z))]) hx hb dL_goes_18 rfl hl (by decide) rfl (fun ls hl => ?_)
  refine lv_ldc (own := RL) (v := (-99999)) hx hb hown (hts (.constant RL 16 (-99999)) (by decide +kernel)) dL_goes_19 ?_
  exact z_iret (w := wX cI cZ ad) (S1 := S) hx hb hr hlk hF hR dL_goes_21 (⟨rfl, rfl⟩)
set_option maxHeartbeats 4000000 in
set_option maxRecDepth 100000 in
theorem o_goes_rescale_ok {l : Launch} {D : va_G} {cI cZ : ClassId} {ad : Nat → Nat} {B : Nat → Prop} (hG : ∀ S : zS, va_D B (wX cI cZ ad S)) (hfl : l.stackTraces = false) (S : zS) (v : Nat) (hO : zOK S) (hv : 1 ≤ v) (hv2 : v ≤ 4) : zMC 0 0 l yL_goes wsL_goes ({ frames := 8, cells := 0, slots := 0, locals := 180 } : Room) [.ref (ad 0), .int (nI (1)), .int (nI (v))] D (zT cI cZ) B (wX cI cZ ad) S (fun (r : Int32) (S1 : zS) => r = (nI (sp_mg v (zn S 22 0) 8)) ∧ S1 = sp_sa S v) := by
  refine zMC_of (cc := cL_goes) (maxL := 4) (ret := (some .int)) (hh := [(0, 17, 18, 17)]) (by decide) rfl (Nat.le_of_ble_eq_true rfl) ?_
  intro pg en s mm below meth cd hx hb hr hml hown hts hlk hex hF hR ls hl
  have hl : lv_has ls 4 [(0, .ref (ad 0)), (1, .int (nI (1))), (2, .int (nI (v)))] := hl
  refine lv_iload_n hx hb dL_goes_0 rfl (lv_at hl 1 rfl) ?_
  refine z_if_ne_n (tgt := 12) hx hb dL_goes_1 (by decide) (by omega) (fun h1_1 => ?_) (fun h1_1 => by omega)
  refine lv_aload_n hx hb dL_goes_12 rfl (lv_at hl 0 rfl) ?_
  refine lv_iload_n hx hb dL_goes_13 rfl (lv_at hl 2 rfl) ?_
  refine z_callV_i (As := [.int (nI (v))]) (rest := []) (w := wX cI cZ ad) ⟨hx, hb, hml, hown, hts⟩ hF hR (c_X4_rescale_ok hG S v hO hv hv2) (cwV 1 hts gL_goes_X4_rescale rfl rfl rfl (by decide +kernel) ⟨Nat.le_of_ble_eq_true rfl, Nat.le_of_ble_eq_true rfl⟩) (wX_c0 S) rfl rfl rfl hl rfl (Nat.le_of_ble_eq_true rfl) (by decide) dL_goes_14 (fun r2 S2 H locs hp2 hR => ?_)
  obtain ⟨hr2, hs2⟩ := hp2
  subst r2
  subst S2
  exact z_iret (w := wX cI cZ ad) (S1 := (sp_sa S v)) hx hb hr hlk hF hR dL_goes_17 (⟨rfl, rfl⟩)
