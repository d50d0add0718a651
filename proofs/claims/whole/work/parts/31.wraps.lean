set_option maxHeartbeats 4000000 in
set_option maxRecDepth 100000 in
theorem o_append_e1 {l : Launch} {D : va_G} {cI cZ cJ : ClassId} {ad : Nat → Nat} {B : Nat → Prop} {oo : Nat} (hG : ∀ S : zS, va_D B (wX cI cZ ad S)) (hoo : ¬ B oo) (hfl : l.stackTraces = false) (S : zS) (g : Nat → Int64) (x y z : Int32) (hO : zOK S) (hxb : zbad x 4) : zMW l yL_append wsL_append ({ frames := 8, cells := 1, slots := 6, locals := 125 } : Room) [.ref (ad 0), .int (x), .int (y), .int (z), .ref (oo)] D (zT3 cI cZ cJ) (zBo B oo) (wO cI cZ cJ ad oo) (S, g) (fun (r : Int32) (u : zS × (Nat → Int64)) => r = nI 1 ∧ u.1 = S) := by
  refine zMW_of (cc := cL_append) (maxL := 6) (ret := (some .int)) (hh := [(0, 12, 15, 13), (0, 12, 19, 15), (0, 12, 23, 17)]) (by decide) rfl (Nat.le_of_ble_eq_true rfl) ?_
  intro pg en s mm below meth cd hx hb hr hml hown hts hlk hex hF hP0 ls hl
  have hl : lv_has ls 6 [(0, .ref (ad 0)), (1, .int (x)), (2, .int (y)), (3, .int (z)), (4, .ref (oo))] := hl
  have hR : zO D cI cZ cJ ad oo B s s.heap [] S g := zO_of hP0
  refine lv_aload hx hb dL_append_0 (lv_at hl 4 rfl) ?_
  refine lv_iconst (v := (nI 0)) hx hb dL_append_2 (by decide) ?_
  refine lv_aload_n hx hb dL_append_3 rfl (lv_at hl 0 rfl) ?_
  refine lv_iload_n hx hb dL_append_4 rfl (lv_at hl 1 rfl) ?_
  refine lv_iload_n hx hb dL_append_5 rfl (lv_at hl 2 rfl) ?_
  refine lv_iload_n hx hb dL_append_6 rfl (lv_at hl 3 rfl) ?_
  refine z_oV_x (As := [.int (x), .int (y), .int (z)]) (rest := [.int (nI 0), .ref oo]) ⟨hx, hb, hml, hown, hts⟩ hF hoo hR (c_X4_append_e1 hG hfl S x y z hO hxb) (cwV 3 hts gL_append_X4_append rfl rfl rfl (by decide +kernel) ⟨Nat.le_of_ble_eq_true rfl, Nat.le_of_ble_eq_true rfl⟩) rfl hl rfl (Nat.le_of_ble_eq_true rfl) (by decide) dL_append_7 (fun E ce q9 H locs hp hR h1 h2 h3 => ?_)
  subst hp
  refine vx_catch (own := RL) (name := zIO) hown [] ⟨0, 12, 15, 13⟩ [⟨0, 12, 19, 15⟩, ⟨0, 12, 23, 17⟩] (by rw [hex]; rfl) (fun _ h => absurd h List.not_mem_nil) (by decide) (by decide) (hts (.classLink RL 13 zIO) (by decide +kernel)) (va_Nw.use rfl (hF.2.2.2.1 _ (by decide +kernel))) h1 h2 h3 ?_
  refine lv_astore (lv' := [(5, .ref (q9)), (0, .ref (ad 0)), (1, .int (x)), (2, .int (y)), (3, .int (z)), (4, .ref (oo))]) hx hb dL_append_15 hl (by decide) rfl (fun ls hl => ?_)
  refine lv_iconst (v := (nI 1)) hx hb dL_append_17 (by decide) ?_
  exact z_o_iret hx hb hr hlk hF hR dL_append_18 ⟨rfl, rfl⟩
set_option maxHeartbeats 4000000 in
set_option maxRecDepth 100000 in
theorem o_append_e2 {l : Launch} {D : va_G} {cI cZ cJ : ClassId} {ad : Nat → Nat} {B : Nat → Prop} {oo : Nat} (hG : ∀ S : zS, va_D B (wX cI cZ ad S)) (hoo : ¬ B oo) (hfl : l.stackTraces = false) (S : zS) (g : Nat → Int64) (p : Nat) (y z : Int32) (hO : zOK S) (hp : p < 4) (hxb : zbad y 32) : zMW l yL_append wsL_append ({ frames := 8, cells := 1, slots := 6, locals := 125 } : Room) [.ref (ad 0), .int (nI (p)), .int (y), .int (z), .ref (oo)] D (zT3 cI cZ cJ) (zBo B oo) (wO cI cZ cJ ad oo) (S, g) (fun (r : Int32) (u : zS × (Nat → Int64)) => r = nI 1 ∧ u.1 = S) := by
  refine zMW_of (cc := cL_append) (maxL := 6) (ret := (some .int)) (hh := [(0, 12, 15, 13), (0, 12, 19, 15), (0, 12, 23, 17)]) (by decide) rfl (Nat.le_of_ble_eq_true rfl) ?_
  intro pg en s mm below meth cd hx hb hr hml hown hts hlk hex hF hP0 ls hl
  have hl : lv_has ls 6 [(0, .ref (ad 0)), (1, .int (nI (p))), (2, .int (y)), (3, .int (z)), (4, .ref (oo))] := hl
  have hR : zO D cI cZ cJ ad oo B s s.heap [] S g := zO_of hP0
  refine lv_aload hx hb dL_append_0 (lv_at hl 4 rfl) ?_
  refine lv_iconst (v := (nI 0)) hx hb dL_append_2 (by decide) ?_
  refine lv_aload_n hx hb dL_append_3 rfl (lv_at hl 0 rfl) ?_
  refine lv_iload_n hx hb dL_append_4 rfl (lv_at hl 1 rfl) ?_
  refine lv_iload_n hx hb dL_append_5 rfl (lv_at hl 2 rfl) ?_
  refine lv_iload_n hx hb dL_append_6 rfl (lv_at hl 3 rfl) ?_
  refine z_oV_x (As := [.int (nI (p)), .int (y), .int (z)]) (rest := [.int (nI 0), .ref oo]) ⟨hx, hb, hml, hown, hts⟩ hF hoo hR (c_X4_append_e2 hG hfl S p y z hO hp hxb) (cwV 3 hts gL_append_X4_append rfl rfl rfl (by decide +kernel) ⟨Nat.le_of_ble_eq_true rfl, Nat.le_of_ble_eq_true rfl⟩) rfl hl rfl (Nat.le_of_ble_eq_true rfl) (by decide) dL_append_7 (fun E ce q9 H locs hp hR h1 h2 h3 => ?_)
  subst hp
  refine vx_catch (own := RL) (name := zIO) hown [] ⟨0, 12, 15, 13⟩ [⟨0, 12, 19, 15⟩, ⟨0, 12, 23, 17⟩] (by rw [hex]; rfl) (fun _ h => absurd h List.not_mem_nil) (by decide) (by decide) (hts (.classLink RL 13 zIO) (by decide +kernel)) (va_Nw.use rfl (hF.2.2.2.1 _ (by decide +kernel))) h1 h2 h3 ?_
  refine lv_astore (lv' := [(5, .ref (q9)), (0, .ref (ad 0)), (1, .int (nI (p))), (2, .int (y)), (3, .int (z)), (4, .ref (oo))]) hx hb dL_append_15 hl (by decide) rfl (fun ls hl => ?_)
  refine lv_iconst (v := (nI 1)) hx hb dL_append_17 (by decide) ?_
  exact z_o_iret hx hb hr hlk hF hR dL_append_18 ⟨rfl, rfl⟩
set_option maxHeartbeats 4000000 in
set_option maxRecDepth 100000 in
theorem o_append_e3 {l : Launch} {D : va_G} {cI cZ cJ : ClassId} {ad : Nat → Nat} {B : Nat → Prop} {oo : Nat} (hG : ∀ S : zS, va_D B (wX cI cZ ad S)) (hoo : ¬ B oo) (hfl : l.stackTraces = false) (S : zS) (g : Nat → Int64) (p key : Nat) (z : Int32) (hO : zOK S) (hp : p < 4) (hk : key < 32) (hz : zbadv z 1 100) : zMW l yL_append wsL_append ({ frames := 8, cells := 1, slots := 6, locals := 125 } : Room) [.ref (ad 0), .int (nI (p)), .int (nI (key)), .int (z), .ref (oo)] D (zT3 cI cZ cJ) (zBo B oo) (wO cI cZ cJ ad oo) (S, g) (fun (r : Int32) (u : zS × (Nat → Int64)) => r = nI 2 ∧ u.1 = S) := by
  refine zMW_of (cc := cL_append) (maxL := 6) (ret := (some .int)) (hh := [(0, 12, 15, 13), (0, 12, 19, 15), (0, 12, 23, 17)]) (by decide) rfl (Nat.le_of_ble_eq_true rfl) ?_
  intro pg en s mm below meth cd hx hb hr hml hown hts hlk hex hF hP0 ls hl
  have hl : lv_has ls 6 [(0, .ref (ad 0)), (1, .int (nI (p))), (2, .int (nI (key))), (3, .int (z)), (4, .ref (oo))] := hl
  have hR : zO D cI cZ cJ ad oo B s s.heap [] S g := zO_of hP0
  refine lv_aload hx hb dL_append_0 (lv_at hl 4 rfl) ?_
  refine lv_iconst (v := (nI 0)) hx hb dL_append_2 (by decide) ?_
  refine lv_aload_n hx hb dL_append_3 rfl (lv_at hl 0 rfl) ?_
  refine lv_iload_n hx hb dL_append_4 rfl (lv_at hl 1 rfl) ?_
  refine lv_iload_n hx hb dL_append_5 rfl (lv_at hl 2 rfl) ?_
  refine lv_iload_n hx hb dL_append_6 rfl (lv_at hl 3 rfl) ?_
  refine z_oV_x (As := [.int (nI (p)), .int (nI (key)), .int (z)]) (rest := [.int (nI 0), .ref oo]) ⟨hx, hb, hml, hown, hts⟩ hF hoo hR (c_X4_append_e3 hG hfl S p key z hO hp hk hz) (cwV 3 hts gL_append_X4_append rfl rfl rfl (by decide +kernel) ⟨Nat.le_of_ble_eq_true rfl, Nat.le_of_ble_eq_true rfl⟩) rfl hl rfl (Nat.le_of_ble_eq_true rfl) (by decide) dL_append_7 (fun E ce q9 H locs hp hR h1 h2 h3 => ?_)
  subst hp
  refine vx_catch (own := RL) (name := zIA) hown [⟨0, 12, 15, 13⟩] ⟨0, 12, 19, 15⟩ [⟨0, 12, 23, 17⟩] (by rw [hex]; rfl) (List.forall_mem_cons.mpr ⟨Or.inr ⟨by decide, zIO, hts (.classLink RL 13 zIO) (by decide +kernel), hF.2.2.2.2.1 (zIA, zIO) (by decide +kernel)⟩, (fun _ h => absurd h List.not_mem_nil)⟩) (by decide) (by decide) (hts (.classLink RL 15 zIA) (by decide +kernel)) (va_Nw.use rfl (hF.2.2.2.1 _ (by decide +kernel))) h1 h2 h3 ?_
  refine lv_astore (lv' := [(5, .ref (q9)), (0, .ref (ad 0)), (1, .int (nI (p))), (2, .int (nI (key))), (3, .int (z)), (4, .ref (oo))]) hx hb dL_append_19 hl (by decide) rfl (fun ls hl => ?_)
  refine lv_iconst (v := (nI 2)) hx hb dL_append_21 (by decide) ?_
  exact z_o_iret hx hb hr hlk hF hR dL_append_22 ⟨rfl, rfl⟩
set_option maxHeartbeats 4000000 in
set_option maxRecDepth 100000 in
theorem o_append_e4 {l : Launch} {D : va_G} {cI cZ cJ : ClassId} {ad : Nat → Nat} {B : Nat → Prop} {oo : Nat} (hG : ∀ S : zS, va_D B (wX cI cZ ad S)) (hoo : ¬ B oo) (hfl : l.stackTraces = false) (S : zS) (g : Nat → Int64) (p key v : Nat) (hO : zOK S) (hp : p < 4) (hk : key < 32) (hv : 1 ≤ v) (hv2 : v ≤ 100) (hn : ¬ zn S 0 p < 60) : zMW l yL_append wsL_append ({ frames := 8, cells := 1, slots := 6, locals := 125 } : Room) [.ref (ad 0), .int (nI (p)), .int (nI (key)), .int (nI (v)), .ref (oo)] D (zT3 cI cZ cJ) (zBo B oo) (wO cI cZ cJ ad oo) (S, g) (fun (r : Int32) (u : zS × (Nat → Int64)) => r = nI 3 ∧ u.1 = S) := by
  refine zMW_of (cc := cL_append) (maxL := 6) (ret := (some .int)) (hh := [(0, 12, 15, 13), (0, 12, 19, 15), (0, 12, 23, 17)]) (by decide) rfl (Nat.le_of_ble_eq_true rfl) ?_
  intro pg en s mm below meth cd hx hb hr hml hown hts hlk hex hF hP0 ls hl
  have hl : lv_has ls 6 [(0, .ref (ad 0)), (1, .int (nI (p))), (2, .int (nI (key))), (3, .int (nI (v))), (4, .ref (oo))] := hl
  have hR : zO D cI cZ cJ ad oo B s s.heap [] S g := zO_of hP0
  refine lv_aload hx hb dL_append_0 (lv_at hl 4 rfl) ?_
  refine lv_iconst (v := (nI 0)) hx hb dL_append_2 (by decide) ?_
  refine lv_aload_n hx hb dL_append_3 rfl (lv_at hl 0 rfl) ?_
  refine lv_iload_n hx hb dL_append_4 rfl (lv_at hl 1 rfl) ?_
  refine lv_iload_n hx hb dL_append_5 rfl (lv_at hl 2 rfl) ?_
  refine lv_iload_n hx hb dL_append_6 rfl (lv_at hl 3 rfl) ?_
  refine z_oV_x (As := [.int (nI (p)), .int (nI (key)), .int (nI (v))]) (rest := [.int (nI 0), .ref oo]) ⟨hx, hb, hml, hown, hts⟩ hF hoo hR (c_X4_append_e4 hG hfl S p key v hO hp hk hv hv2 hn) (cwV 3 hts gL_append_X4_append rfl rfl rfl (by decide +kernel) ⟨Nat.le_of_ble_eq_true rfl, Nat.le_of_ble_eq_true rfl⟩) rfl hl rfl (Nat.le_of_ble_eq_true rfl) (by decide) dL_append_7 (fun E ce q9 H locs hp hR h1 h2 h3 => ?_)
  subst hp
  refine vx_catch (own := RL) (name := zIS) hown [⟨0, 12, 15, 13⟩, ⟨0, 12, 19, 15⟩] ⟨0, 12, 23, 17⟩ [] (by rw [hex]; rfl) (List.forall_mem_cons.mpr ⟨Or.inr ⟨by decide, zIO, hts (.classLink RL 13 zIO) (by decide +kernel), hF.2.2.2.2.1 (zIS, zIO) (by decide +kernel)⟩, (List.forall_mem_cons.mpr ⟨Or.inr ⟨by decide, zIA, hts (.classLink RL 15 zIA) (by decide +kernel), hF.2.2.2.2.1 (zIS, zIA) (by decide +kernel)⟩, (fun _ h => absurd h List.not_mem_nil)⟩)⟩) (by decide) (by decide) (hts (.classLink RL 17 zIS) (by decide +kernel)) (va_Nw.use rfl (hF.2.2.2.1 _ (by decide +kernel))) h1 h2 h3 ?_
  refine lv_astore (lv' := [(5, .ref (q9)), (0, .ref (ad 0)), (1, .int (nI (p))), (2, .int (nI (key))), (3, .int (nI (v))), (4, .ref (oo))]) hx hb dL_append_23 hl (by decide) rfl (fun ls hl => ?_)
  refine lv_iconst (v := (nI 3)) hx hb dL_append_25 (by decide) ?_
  exact z_o_iret hx hb hr hlk hF hR dL_append_26 ⟨rfl, rfl⟩
set_option maxHeartbeats 4000000 in
set_option maxRecDepth 100000 in
theorem o_append_ok {l : Launch} {D : va_G} {cI cZ cJ : ClassId} {ad : Nat → Nat} {B : Nat → Prop} {oo : Nat} (hG : ∀ S : zS, va_D B (wX cI cZ ad S)) (hoo : ¬ B oo) (hfl : l.stackTraces = false) (S : zS) (g : Nat → Int64) (p key v : Nat) (hO : zOK S) (hp : p < 4) (hk : key < 32) (hv : 1 ≤ v) (hv2 : v ≤ 100) (hn : zn S 0 p < 60) : zMW l yL_append wsL_append ({ frames := 8, cells := 1, slots := 6, locals := 125 } : Room) [.ref (ad 0), .int (nI (p)), .int (nI (key)), .int (nI (v)), .ref (oo)] D (zT3 cI cZ cJ) (zBo B oo) (wO cI cZ cJ ad oo) (S, g) (fun (r : Int32) (u : zS × (Nat → Int64)) => r = nI 0 ∧ u.1 = sp_app S p (nI (1000 * key + v)) ∧ (u.2 0 = ((nI (zn S 0 p))).toInt64)) := by
  refine zMW_of (cc := cL_append) (maxL := 6) (ret := (some .int)) (hh := [(0, 12, 15, 13), (0, 12, 19, 15), (0, 12, 23, 17)]) (by decide) rfl (Nat.le_of_ble_eq_true rfl) ?_
  intro pg en s mm below meth cd hx hb hr hml hown hts hlk hex hF hP0 ls hl
  have hl : lv_has ls 6 [(0, .ref (ad 0)), (1, .int (nI (p))), (2, .int (nI (key))), (3, .int (nI (v))), (4, .ref (oo))] := hl
  have hR : zO D cI cZ cJ ad oo B s s.heap [] S g := zO_of hP0
  refine lv_aload hx hb dL_append_0 (lv_at hl 4 rfl) ?_
  refine lv_iconst (v := (nI 0)) hx hb dL_append_2 (by decide) ?_
  refine lv_aload_n hx hb dL_append_3 rfl (lv_at hl 0 rfl) ?_
  refine lv_iload_n hx hb dL_append_4 rfl (lv_at hl 1 rfl) ?_
  refine lv_iload_n hx hb dL_append_5 rfl (lv_at hl 2 rfl) ?_
  refine lv_iload_n hx hb dL_append_6 rfl (lv_at hl 3 rfl) ?_
  refine z_oV_i (As := [.int (nI (p)), .int (nI (key)), .int (nI (v))]) (rest := [.int (nI 0), .ref oo]) ⟨hx, hb, hml, hown, hts⟩ hF hoo hR (c_X4_append_ok hG S p key v hO hp hk hv hv2 hn) (cwV 3 hts gL_append_X4_append rfl rfl rfl (by decide +kernel) ⟨Nat.le_of_ble_eq_true rfl, Nat.le_of_ble_eq_true rfl⟩) rfl hl rfl (Nat.le_of_ble_eq_true rfl) (by decide) dL_append_7 (fun r S1 H locs hp hR => ?_)
  obtain ⟨hr1, hs⟩ := hp
  subst r
  subst S1
  refine lv_i2l (v := ((nI (zn S 0 p))).toInt64) hx hb dL_append_10 rfl ?_
  refine z_o_last hx hb hF hR hG hoo dL_append_11 (fun H locs g1 hg hR => ?_)
  refine lv_goto (tgt := 27) hx hb dL_append_12 (by decide) ?_
  refine lv_iconst (v := (nI 0)) hx hb dL_append_27 (by decide) ?_
  refine W.widen (k := 1) (n := 6) (by decide) (by decide) ?_
  exact z_o_iret hx hb hr hlk hF hR dL_append_28 ⟨rfl, rfl, hg⟩
set_option maxHeartbeats 4000000 in
set_option maxRecDepth 100000 in
theorem o_read_e1 {l : Launch} {D : va_G} {cI cZ cJ : ClassId} {ad : Nat → Nat} {B : Nat → Prop} {oo : Nat} (hG : ∀ S : zS, va_D B (wX cI cZ ad S)) (hoo : ¬ B oo) (hfl : l.stackTraces = false) (S : zS) (g : Nat → Int64) (x : Int32) (hO : zOK S) (hxb : zbad x 4) : zMW l yL_read wsL_read ({ frames := 8, cells := 1, slots := 6, locals := 123 } : Room) [.ref (ad 0), .int (x), .ref (oo)] D (zT3 cI cZ cJ) (zBo B oo) (wO cI cZ cJ ad oo) (S, g) (fun (r : Int32) (u : zS × (Nat → Int64)) => r = nI 1 ∧ u.1 = S) := by
  refine zMW_of (cc := cL_read) (maxL := 4) (ret := (some .int)) (hh := [(0, 9, 12, 13), (0, 9, 15, 17)]) (by decide) rfl (Nat.le_of_ble_eq_true rfl) ?_
  intro pg en s mm below meth cd hx hb hr hml hown hts hlk hex hF hP0 ls hl
  have hl : lv_has ls 4 [(0, .ref (ad 0)), (1, .int (x)), (2, .ref (oo))] := hl
  have hR : zO D cI cZ cJ ad oo B s s.heap [] S g := zO_of hP0
  refine lv_aload_n hx hb dL_read_0 rfl (lv_at hl 2 rfl) ?_
  refine lv_iconst (v := (nI 0)) hx hb dL_read_1 (by decide) ?_
  refine lv_aload_n hx hb dL_read_2 rfl (lv_at hl 0 rfl) ?_
  refine lv_iload_n hx hb dL_read_3 rfl (lv_at hl 1 rfl) ?_
  refine z_oV_x (As := [.int (x)]) (rest := [.int (nI 0), .ref oo]) ⟨hx, hb, hml, hown, hts⟩ hF hoo hR (c_X4_read_e1 hG hfl S x hO hxb) (cwV 1 hts gL_read_X4_read rfl rfl rfl (by decide +kernel) ⟨Nat.le_of_ble_eq_true rfl, Nat.le_of_ble_eq_true rfl⟩) rfl hl rfl (Nat.le_of_ble_eq_true rfl) (by decide) dL_read_4 (fun E ce q9 H locs hp hR h1 h2 h3 => ?_)
  subst hp
  refine vx_catch (own := RL) (name := zIO) hown [] ⟨0, 9, 12, 13⟩ [⟨0, 9, 15, 17⟩] (by rw [hex]; rfl) (fun _ h => absurd h List.not_mem_nil) (by decide) (by decide) (hts (.classLink RL 13 zIO) (by decide +kernel)) (va_Nw.use rfl (hF.2.2.2.1 _ (by decide +kernel))) h1 h2 h3 ?_
  refine lv_astore_n (lv' := [(3, .ref (q9)), (0, .ref (ad 0)), (1, .int (x)), (2, .ref (oo))]) hx hb dL_read_12 rfl hl (by decide) rfl (fun ls hl => ?_)
  refine lv_iconst (v := (nI 1)) hx hb dL_read_13 (by decide) ?_
  exact z_o_iret hx hb hr hlk hF hR dL_read_14 ⟨rfl, rfl⟩
set_option maxHeartbeats 4000000 in
set_option maxRecDepth 100000 in
theorem o_read_e2 {l : Launch} {D : va_G} {cI cZ cJ : ClassId} {ad : Nat → Nat} {B : Nat → Prop} {oo : Nat} (hG : ∀ S : zS, va_D B (wX cI cZ ad S)) (hoo : ¬ B oo) (hfl : l.stackTraces = false) (S : zS) (g : Nat → Int64) (p : Nat) (hO : zOK S) (hp : p < 4) (hc : ¬ zcanR S p) : zMW l yL_read wsL_read ({ frames := 8, cells := 1, slots := 6, locals := 123 } : Room) [.ref (ad 0), .int (nI (p)), .ref (oo)] D (zT3 cI cZ cJ) (zBo B oo) (wO cI cZ cJ ad oo) (S, g) (fun (r : Int32) (u : zS × (Nat → Int64)) => r = nI 2 ∧ u.1 = S) := by
  refine zMW_of (cc := cL_read) (maxL := 4) (ret := (some .int)) (hh := [(0, 9, 12, 13), (0, 9, 15, 17)]) (by decide) rfl (Nat.le_of_ble_eq_true rfl) ?_
  intro pg en s mm below meth cd hx hb hr hml hown hts hlk hex hF hP0 ls hl
  have hl : lv_has ls 4 [(0, .ref (ad 0)), (1, .int (nI (p))), (2, .ref (oo))] := hl
  have hR : zO D cI cZ cJ ad oo B s s.heap [] S g := zO_of hP0
  refine lv_aload_n hx hb dL_read_0 rfl (lv_at hl 2 rfl) ?_
  refine lv_iconst (v := (nI 0)) hx hb dL_read_1 (by decide) ?_
  refine lv_aload_n hx hb dL_read_2 rfl (lv_at hl 0 rfl) ?_
  refine lv_iload_n hx hb dL_read_3 rfl (lv_at hl 1 rfl) ?_
  refine z_oV_x (As := [.int (nI (p))]) (rest := [.int (nI 0), .ref oo]) ⟨hx, hb, hml, hown, hts⟩ hF hoo hR (c_X4_read_e2 hG hfl S p hO hp hc) (cwV 1 hts gL_read_X4_read rfl rfl rfl (by decide +kernel) ⟨Nat.le_of_ble_eq_true rfl, Nat.le_of_ble_eq_true rfl⟩) rfl hl rfl (Nat.le_of_ble_eq_true rfl) (by decide) dL_read_4 (fun E ce q9 H locs hp hR h1 h2 h3 => ?_)
  subst hp
  refine vx_catch (own := RL) (name := zIS) hown [⟨0, 9, 12, 13⟩] ⟨0, 9, 15, 17⟩ [] (by rw [hex]; rfl) (List.forall_mem_cons.mpr ⟨Or.inr ⟨by decide, zIO, hts (.classLink RL 13 zIO) (by decide +kernel), hF.2.2.2.2.1 (zIS, zIO) (by decide +kernel)⟩, (fun _ h => absurd h List.not_mem_nil)⟩) (by decide) (by decide) (hts (.classLink RL 17 zIS) (by decide +kernel)) (va_Nw.use rfl (hF.2.2.2.1 _ (by decide +kernel))) h1 h2 h3 ?_
  refine lv_astore_n (lv' := [(3, .ref (q9)), (0, .ref (ad 0)), (1, .int (nI (p))), (2, .ref (oo))]) hx hb dL_read_15 rfl hl (by decide) rfl (fun ls hl => ?_)
  refine lv_iconst (v := (nI 2)) hx hb dL_read_16 (by decide) ?_
  exact z_o_iret hx hb hr hlk hF hR dL_read_17 ⟨rfl, rfl⟩
set_option maxHeartbeats 4000000 in
set_option maxRecDepth 100000 in
theorem o_read_ok {l : Launch} {D : va_G} {cI cZ cJ : ClassId} {ad : Nat → Nat} {B : Nat → Prop} {oo : Nat} (hG : ∀ S : zS, va_D B (wX cI cZ ad S)) (hoo : ¬ B oo) (hfl : l.stackTraces = false) (S : zS) (g : Nat → Int64) (p : Nat) (hO : zOK S) (hp : p < 4) (hc : zcanR S p) : zMW l yL_read wsL_read ({ frames := 8, cells := 1, slots := 6, locals := 123 } : Room) [.ref (ad 0), .int (nI (p)), .ref (oo)] D (zT3 cI cZ cJ) (zBo B oo) (wO cI cZ cJ ad oo) (S, g) (fun (r : Int32) (u : zS × (Nat → Int64)) => r = nI 0 ∧ u.1 = sp_read S p ∧ (u.2 0 = ((nI (zrw S p))).toInt64)) := by
  refine zMW_of (cc := cL_read) (maxL := 4) (ret := (some .int)) (hh := [(0, 9, 12, 13), (0, 9, 15, 17)]) (by decide) rfl (Nat.le_of_ble_eq_true rfl) ?_
  intro pg en s mm below meth cd hx hb hr hml hown hts hlk hex hF hP0 ls hl
  have hl : lv_has ls 4 [(0, .ref (ad 0)), (1, .int (nI (p))), (2, .ref (oo))] := hl
  have hR : zO D cI cZ cJ ad oo B s s.heap [] S g := zO_of hP0
  refine lv_aload_n hx hb dL_read_0 rfl (lv_at hl 2 rfl) ?_
  refine lv_iconst (v := (nI 0)) hx hb dL_read_1 (by decide) ?_
  refine lv_aload_n hx hb dL_read_2 rfl (lv_at hl 0 rfl) ?_
  refine lv_iload_n hx hb dL_read_3 rfl (lv_at hl 1 rfl) ?_
  refine z_oV_i (As := [.int (nI (p))]) (rest := [.int (nI 0), .ref oo]) ⟨hx, hb, hml, hown, hts⟩ hF hoo hR (c_X4_read_ok hG S p hO hp hc) (cwV 1 hts gL_read_X4_read rfl rfl rfl (by decide +kernel) ⟨Nat.le_of_ble_eq_true rfl, Nat.le_of_ble_eq_true rfl⟩) rfl hl rfl (Nat.le_of_ble_eq_true rfl) (by decide) dL_read_4 (fun r S1 H locs hp hR => ?_)
  obtain ⟨hr1, hs⟩ := hp
  subst r
  subst S1
  refine lv_i2l (v := ((nI (zrw S p))).toInt64) hx hb dL_read_7 rfl ?_
  refine z_o_last hx hb hF hR hG hoo dL_read_8 (fun H locs g1 hg hR => ?_)
  refine lv_goto (tgt := 18) hx hb dL_read_9 (by decide) ?_
  refine lv_iconst (v := (nI 0)) hx hb dL_read_18 (by decide) ?_
  refine W.widen (k := 1) (n := 6) (by decide) (by decide) ?_
  exact z_o_iret hx hb hr hlk hF hR dL_read_19 ⟨rfl, rfl, hg⟩
set_option maxHeartbeats 4000000 in
set_option maxRecDepth 100000 in
theorem o_sendBarrier_e1 {l : Launch} {D : va_G} {cI cZ cJ : ClassId} {ad : Nat → Nat} {B : Nat → Prop} {oo : Nat} (hG : ∀ S : zS, va_D B (wX cI cZ ad S)) (hoo : ¬ B oo) (hfl : l.stackTraces = false) (S : zS) (g : Nat → Int64) (x : Int32) (hO : zOK S) (hxb : zbad x 4) : zMW l yL_sendBarrier wsL_sendBarrier ({ frames := 8, cells := 1, slots := 6, locals := 124 } : Room) [.ref (ad 0), .int (x), .ref (oo)] D (zT3 cI cZ cJ) (zBo B oo) (wO cI cZ cJ ad oo) (S, g) (fun (r : Int32) (u : zS × (Nat → Int64)) => r = nI 1 ∧ u.1 = S) := by
  refine zMW_of (cc := cL_sendBarrier) (maxL := 4) (ret := (some .int)) (hh := [(0, 9, 12, 13), (0, 9, 15, 17)]) (by decide) rfl (Nat.le_of_ble_eq_true rfl) ?_
  intro pg en s mm below meth cd hx hb hr hml hown hts hlk hex hF hP0 ls hl
  have hl : lv_has ls 4 [(0, .ref (ad 0)), (1, .int (x)), (2, .ref (oo))] := hl
  have hR : zO D cI cZ cJ ad oo B s s.heap [] S g := zO_of hP0
  refine lv_aload_n hx hb dL_sendBarrier_0 rfl (lv_at hl 2 rfl) ?_
  refine lv_iconst (v := (nI 0)) hx hb dL_sendBarrier_1 (by decide) ?_
  refine lv_aload_n hx hb dL_sendBarrier_2 rfl (lv_at hl 0 rfl) ?_
  refine lv_iload_n hx hb dL_sendBarrier_3 rfl (lv_at hl 1 rfl) ?_
  refine z_oV_x (As := [.int (x)]) (rest := [.int (nI 0), .ref oo]) ⟨hx, hb, hml, hown, hts⟩ hF hoo hR (c_X4_sendBarrier_e1 hG hfl S x hO hxb) (cwV 1 hts gL_sendBarrier_X4_sendBarrier rfl rfl rfl (by decide +kernel) ⟨Nat.le_of_ble_eq_true rfl, Nat.le_of_ble_eq_true rfl⟩) rfl hl rfl (Nat.le_of_ble_eq_true rfl) (by decide) dL_sendBarrier_4 (fun E ce q9 H locs hp hR h1 h2 h3 => ?_)
  subst hp
  refine vx_catch (own := RL) (name := zIO) hown [] ⟨0, 9, 12, 13⟩ [⟨0, 9, 15, 17⟩] (by rw [hex]; rfl) (fun _ h => absurd h List.not_mem_nil) (by decide) (by decide) (hts (.classLink RL 13 zIO) (by decide +kernel)) (va_Nw.use rfl (hF.2.2.2.1 _ (by decide +kernel))) h1 h2 h3 ?_
  refine lv_astore_n (lv' := [(3, .ref (q9)), (0, .ref (ad 0)), (1, .int (x)), (2, .ref (oo))]) hx hb dL_sendBarrier_12 rfl hl (by decide) rfl (fun ls hl => ?_)
  refine lv_iconst (v := (nI 1)) hx hb dL_sendBarrier_13 (by decide) ?_
  exact z_o_iret hx hb hr hlk hF hR dL_sendBarrier_14 ⟨rfl, rfl⟩
set_option maxHeartbeats 4000000 in
set_option maxRecDepth 100000 in
theorem o_sendBarrier_e2 {l : Launch} {D : va_G} {cI cZ cJ : ClassId} {ad : Nat → Nat} {B : Nat → Prop} {oo : Nat} (hG : ∀ S : zS, va_D B (wX cI cZ ad S)) (hoo : ¬ B oo) (hfl : l.stackTraces = false) (S : zS) (g : Nat → Int64) (p : Nat) (hO : zOK S) (hp : p < 4) (hc : S 22 2 = (-1) ∨ S 4 p = nI 1) : zMW l yL_sendBarrier wsL_sendBarrier ({ frames := 8, cells := 1, slots := 6, locals := 124 } : Room) [.ref (ad 0), .int (nI (p)), .ref (oo)] D (zT3 cI cZ cJ) (zBo B oo) (wO cI cZ cJ ad oo) (S, g) (fun (r : Int32) (u : zS × (Nat → Int64)) => r = nI 2 ∧ u.1 = S) := by
  refine zMW_of (cc := cL_sendBarrier) (maxL := 4) (ret := (some .int)) (hh := [(0, 9, 12, 13), (0, 9, 15, 17)]) (by decide) rfl (Nat.le_of_ble_eq_true rfl) ?_
  intro pg en s mm below meth cd hx hb hr hml hown hts hlk hex hF hP0 ls hl
  have hl : lv_has ls 4 [(0, .ref (ad 0)), (1, .int (nI (p))), (2, .ref (oo))] := hl
  have hR : zO D cI cZ cJ ad oo B s s.heap [] S g := zO_of hP0
  refine lv_aload_n hx hb dL_sendBarrier_0 rfl (lv_at hl 2 rfl) ?_
  refine lv_iconst (v := (nI 0)) hx hb dL_sendBarrier_1 (by decide) ?_
  refine lv_aload_n hx hb dL_sendBarrier_2 rfl (lv_at hl 0 rfl) ?_
  refine lv_iload_n hx hb dL_sendBarrier_3 rfl (lv_at hl 1 rfl) ?_
  refine z_oV_x (As := [.int (nI (p))]) (rest := [.int (nI 0), .ref oo]) ⟨hx, hb, hml, hown, hts⟩ hF hoo hR (c_X4_sendBarrier_e2 hG hfl S p hO hp hc) (cwV 1 hts gL_sendBarrier_X4_sendBarrier rfl rfl rfl (by decide +kernel) ⟨Nat.le_of_ble_eq_true rfl, Nat.le_of_ble_eq_true rfl⟩) rfl hl rfl (Nat.le_of_ble_eq_true rfl) (by decide) dL_sendBarrier_4 (fun E ce q9 H locs hp hR h1 h2 h3 => ?_)
  subst hp
  refine vx_catch (own := RL) (name := zIS) hown [⟨0, 9, 12, 13⟩] ⟨0, 9, 15, 17⟩ [] (by rw [hex]; rfl) (List.forall_mem_cons.mpr ⟨Or.inr ⟨by decide, zIO, hts (.classLink RL 13 zIO) (by decide +kernel), hF.2.2.2.2.1 (zIS, zIO) (by decide +kernel)⟩, (fun _ h => absurd h List.not_mem_nil)⟩) (by decide) (by decide) (hts (.classLink RL 17 zIS) (by decide +kernel)) (va_Nw.use rfl (hF.2.2.2.1 _ (by decide +kernel))) h1 h2 h3 ?_
  refine lv_astore_n (lv' := [(3, .ref (q9)), (0, .ref (ad 0)), (1, .int (nI (p))), (2, .ref (oo))]) hx hb dL_sendBarrier_15 rfl hl (by decide) rfl (fun ls hl => ?_)
  refine lv_iconst (v := (nI 2)) hx hb dL_sendBarrier_16 (by decide) ?_
  exact z_o_iret hx hb hr hlk hF hR dL_sendBarrier_17 ⟨rfl, rfl⟩
set_option maxHeartbeats 4000000 in
set_option maxRecDepth 100000 in
theorem o_sendBarrier_e3 {l : Launch} {D : va_G} {cI cZ cJ : ClassId} {ad : Nat → Nat} {B : Nat → Prop} {oo : Nat} (hG : ∀ S : zS, va_D B (wX cI cZ ad S)) (hoo : ¬ B oo) (hfl : l.stackTraces = false) (S : zS) (g : Nat → Int64) (p : Nat) (hO : zOK S) (hp : p < 4) (hc1 : ¬ S 22 2 = (-1)) (hc2 : S 4 p = nI 0) (hc : ¬ ∀ w, w < zn S 22 0 → zn S 7 (4 * p + w) < 8) : zMW l yL_sendBarrier wsL_sendBarrier ({ frames := 8, cells := 1, slots := 6, locals := 124 } : Room) [.ref (ad 0), .int (nI (p)), .ref (oo)] D (zT3 cI cZ cJ) (zBo B oo) (wO cI cZ cJ ad oo) (S, g) (fun (r : Int32) (u : zS × (Nat → Int64)) => r = nI 2 ∧ u.1 = S) := by
  refine zMW_of (cc := cL_sendBarrier) (maxL := 4) (ret := (some .int)) (hh := [(0, 9, 12, 13), (0, 9, 15, 17)]) (by decide) rfl (Nat.le_of_ble_eq_true rfl) ?_
  intro pg en s mm below meth cd hx hb hr hml hown hts hlk hex hF hP0 ls hl
  have hl : lv_has ls 4 [(0, .ref (ad 0)), (1, .int (nI (p))), (2, .ref (oo))] := hl
  have hR : zO D cI cZ cJ ad oo B s s.heap [] S g := zO_of hP0
  refine lv_aload_n hx hb dL_sendBarrier_0 rfl (lv_at hl 2 rfl) ?_
  refine lv_iconst (v := (nI 0)) hx hb dL_sendBarrier_1 (by decide) ?_
  refine lv_aload_n hx hb dL_sendBarrier_2 rfl (lv_at hl 0 rfl) ?_
  refine lv_iload_n hx hb dL_sendBarrier_3 rfl (lv_at hl 1 rfl) ?_
  refine z_oV_x (As := [.int (nI (p))]) (rest := [.int (nI 0), .ref oo]) ⟨hx, hb, hml, hown, hts⟩ hF hoo hR (c_X4_sendBarrier_e3 hG hfl S p hO hp hc1 hc2 hc) (cwV 1 hts gL_sendBarrier_X4_sendBarrier rfl rfl rfl (by decide +kernel) ⟨Nat.le_of_ble_eq_true rfl, Nat.le_of_ble_eq_true rfl⟩) rfl hl rfl (Nat.le_of_ble_eq_true rfl) (by decide) dL_sendBarrier_4 (fun E ce q9 H locs hp hR h1 h2 h3 => ?_)
  subst hp
  refine vx_catch (own := RL) (name := zIS) hown [⟨0, 9, 12, 13⟩] ⟨0, 9, 15, 17⟩ [] (by rw [hex]; rfl) (List.forall_mem_cons.mpr ⟨Or.inr ⟨by decide, zIO, hts (.classLink RL 13 zIO) (by decide +kernel), hF.2.2.2.2.1 (zIS, zIO) (by decide +kernel)⟩, (fun _ h => absurd h List.not_mem_nil)⟩) (by decide) (by decide) (hts (.classLink RL 17 zIS) (by decide +kernel)) (va_Nw.use rfl (hF.2.2.2.1 _ (by decide +kernel))) h1 h2 h3 ?_
  refine lv_astore_n (lv' := [(3, .ref (q9)), (0, .ref (ad 0)), (1, .int (nI (p))), (2, .ref (oo))]) hx hb dL_sendBarrier_15 rfl hl (by decide) rfl (fun ls hl => ?_)
  refine lv_iconst (v := (nI 2)) hx hb dL_sendBarrier_16 (by decide) ?_
  exact z_o_iret hx hb hr hlk hF hR dL_sendBarrier_17 ⟨rfl, rfl⟩
set_option maxHeartbeats 4000000 in
set_option maxRecDepth 100000 in
theorem o_sendBarrier_ok {l : Launch} {D : va_G} {cI cZ cJ : ClassId} {ad : Nat → Nat} {B : Nat → Prop} {oo : Nat} (hG : ∀ S : zS, va_D B (wX cI cZ ad S)) (hoo : ¬ B oo) (hfl : l.stackTraces = false) (S : zS) (g : Nat → Int64) (p : Nat) (hO : zOK S) (hp : p < 4) (hc1 : ¬ S 22 2 = (-1)) (hc2 : S 4 p = nI 0) (hc : ∀ w, w < zn S 22 0 → zn S 7 (4 * p + w) < 8) (hxb : (-(S 22 2)).toInt ≤ 31100) : zMW l yL_sendBarrier wsL_sendBarrier ({ frames := 8, cells := 1, slots := 6, locals := 124 } : Room) [.ref (ad 0), .int (nI (p)), .ref (oo)] D (zT3 cI cZ cJ) (zBo B oo) (wO cI cZ cJ ad oo) (S, g) (fun (r : Int32) (u : zS × (Nat → Int64)) => r = nI 0 ∧ u.1 = sp_send S p ∧ (u.2 0 = ((nI (zn (sp_sb S p (zn S 22 0)) 2 p))).toInt64)) := by
  refine zMW_of (cc := cL_sendBarrier) (maxL := 4) (ret := (some .int)) (hh := [(0, 9, 12, 13), (0, 9, 15, 17)]) (by decide) rfl (Nat.le_of_ble_eq_true rfl) ?_
  intro pg en s mm below meth cd hx hb hr hml hown hts hlk hex hF hP0 ls hl
  have hl : lv_has ls 4 [(0, .ref (ad 0)), (1, .int (nI (p))), (2, .ref (oo))] := hl
  have hR : zO D cI cZ cJ ad oo B s s.heap [] S g := zO_of hP0
  refine lv_aload_n hx hb dL_sendBarrier_0 rfl (lv_at hl 2 rfl) ?_
  refine lv_iconst (v := (nI 0)) hx hb dL_sendBarrier_1 (by decide) ?_
  refine lv_aload_n hx hb dL_sendBarrier_2 rfl (lv_at hl 0 rfl) ?_
  refine lv_iload_n hx hb dL_sendBarrier_3 rfl (lv_at hl 1 rfl) ?_
  refine z_oV_i (As := [.int (nI (p))]) (rest := [.int (nI 0), .ref oo]) ⟨hx, hb, hml, hown, hts⟩ hF hoo hR (c_X4_sendBarrier_ok hG S p hO hp hc1 hc2 hc hxb) (cwV 1 hts gL_sendBarrier_X4_sendBarrier rfl rfl rfl (by decide +kernel) ⟨Nat.le_of_ble_eq_true rfl, Nat.le_of_ble_eq_true rfl⟩) rfl hl rfl (Nat.le_of_ble_eq_true rfl) (by decide) dL_sendBarrier_4 (fun r S1 H locs hp hR => ?_)
  obtain ⟨hr1, hs⟩ := hp
  subst r
  subst S1
  refine lv_i2l (v := ((nI (zn (sp_sb S p (zn S 22 0)) 2 p))).toInt64) hx hb dL_sendBarrier_7 rfl ?_
  refine z_o_last hx hb hF hR hG hoo dL_sendBarrier_8 (fun H locs g1 hg hR => ?_)
  refine lv_goto (tgt := 18) hx hb dL_sendBarrier_9 (by decide) ?_
  refine lv_iconst (v := (nI 0)) hx hb dL_sendBarrier_18 (by decide) ?_
  refine W.widen (k := 1) (n := 6) (by decide) (by decide) ?_
  exact z_o_iret hx hb hr hlk hF hR dL_sendBarrier_19 ⟨rfl, rfl, hg⟩
set_option maxHeartbeats 4000000 in
set_option maxRecDepth 100000 in
theorem o_take_e1 {l : Launch} {D : va_G} {cI cZ cJ : ClassId} {ad : Nat → Nat} {B : Nat → Prop} {oo : Nat} (hG : ∀ S : zS, va_D B (wX cI cZ ad S)) (hoo : ¬ B oo) (hfl : l.stackTraces = false) (S : zS) (g : Nat → Int64) (x y : Int32) (hO : zOK S) (hxb : zbad x (zn S 22 0)) : zMW l yL_take wsL_take ({ frames := 8, cells := 1, slots := 6, locals := 156 } : Room) [.ref (ad 0), .int (x), .int (y), .ref (oo)] D (zT3 cI cZ cJ) (zBo B oo) (wO cI cZ cJ ad oo) (S, g) (fun (r : Int32) (u : zS × (Nat → Int64)) => r = nI 1 ∧ u.1 = S) := by
  refine zMW_of (cc := cL_take) (maxL := 5) (ret := (some .int)) (hh := [(0, 10, 13, 13), (0, 10, 17, 17)]) (by decide) rfl (Nat.le_of_ble_eq_true rfl) ?_
  intro pg en s mm below meth cd hx hb hr hml hown hts hlk hex hF hP0 ls hl
  have hl : lv_has ls 5 [(0, .ref (ad 0)), (1, .int (x)), (2, .int (y)), (3, .ref (oo))] := hl
  have hR : zO D cI cZ cJ ad oo B s s.heap [] S g := zO_of hP0
  refine lv_aload_n hx hb dL_take_0 rfl (lv_at hl 3 rfl) ?_
  refine lv_iconst (v := (nI 0)) hx hb dL_take_1 (by decide) ?_
  refine lv_aload_n hx hb dL_take_2 rfl (lv_at hl 0 rfl) ?_
  refine lv_iload_n hx hb dL_take_3 rfl (lv_at hl 1 rfl) ?_
  refine lv_iload_n hx hb dL_take_4 rfl (lv_at hl 2 rfl) ?_
  refine z_oV_x (As := [.int (x), .int (y)]) (rest := [.int (nI 0), .ref oo]) ⟨hx, hb, hml, hown, hts⟩ hF hoo hR (c_X4_take_e1 hG hfl S x y hO hxb) (cwV 2 hts gL_take_X4_take rfl rfl rfl (by decide +kernel) ⟨Nat.le_of_ble_eq_true rfl, Nat.le_of_ble_eq_true rfl⟩) rfl hl rfl (Nat.le_of_ble_eq_true rfl) (by decide) dL_take_5 (fun E ce q9 H locs hp hR h1 h2 h3 => ?_)
  subst hp
  refine vx_catch (own := RL) (name := zIO) hown [] ⟨0, 10, 13, 13⟩ [⟨0, 10, 17, 17⟩] (by rw [hex]; rfl) (fun _ h => absurd h List.not_mem_nil) (by decide) (by decide) (hts (.classLink RL 13 zIO) (by decide +kernel)) (va_Nw.use rfl (hF.2.2.2.1 _ (by decide +kernel))) h1 h2 h3 ?_
  refine lv_astore (lv' := [(4, .ref (q9)), (0, .ref (ad 0)), (1, .int (x)), (2, .int (y)), (3, .ref (oo))]) hx hb dL_take_13 hl (by decide) rfl (fun ls hl => ?_)
  refine lv_iconst (v := (nI 1)) hx hb dL_take_15 (by decide) ?_
  exact z_o_iret hx hb hr hlk hF hR dL_take_16 ⟨rfl, rfl⟩
set_option maxHeartbeats 4000000 in
set_option maxRecDepth 100000 in
theorem o_take_e2 {l : Launch} {D : va_G} {cI cZ cJ : ClassId} {ad : Nat → Nat} {B : Nat → Prop} {oo : Nat} (hG : ∀ S : zS, va_D B (wX cI cZ ad S)) (hoo : ¬ B oo) (hfl : l.stackTraces = false) (S : zS) (g : Nat → Int64) (w : Nat) (y : Int32) (hO : zOK S) (hw : w < zn S 22 0) (hxb : zbad y 4) : zMW l yL_take wsL_take ({ frames := 8, cells := 1, slots := 6, locals := 156 } : Room) [.ref (ad 0), .int (nI (w)), .int (y), .ref (oo)] D (zT3 cI cZ cJ) (zBo B oo) (wO cI cZ cJ ad oo) (S, g) (fun (r : Int32) (u : zS × (Nat → Int64)) => r = nI 1 ∧ u.1 = S) := by
  refine zMW_of (cc := cL_take) (maxL := 5) (ret := (some .int)) (hh := [(0, 10, 13, 13), (0, 10, 17, 17)]) (by decide) rfl (Nat.le_of_ble_eq_true rfl) ?_
  intro pg en s mm below meth cd hx hb hr hml hown hts hlk hex hF hP0 ls hl
  have hl : lv_has ls 5 [(0, .ref (ad 0)), (1, .int (nI (w))), (2, .int (y)), (3, .ref (oo))] := hl
  have hR : zO D cI cZ cJ ad oo B s s.heap [] S g := zO_of hP0
  refine lv_aload_n hx hb dL_take_0 rfl (lv_at hl 3 rfl) ?_
  refine lv_iconst (v := (nI 0)) hx hb dL_take_1 (by decide) ?_
  refine lv_aload_n hx hb dL_take_2 rfl (lv_at hl 0 rfl) ?_
  refine lv_iload_n hx hb dL_take_3 rfl (lv_at hl 1 rfl) ?_
  refine lv_iload_n hx hb dL_take_4 rfl (lv_at hl 2 rfl) ?_
  refine z_oV_x (As := [.int (nI (w)), .int (y)]) (rest := [.int (nI 0), .ref oo]) ⟨hx, hb, hml, hown, hts⟩ hF hoo hR (c_X4_take_e2 hG hfl S w y hO hw hxb) (cwV 2 hts gL_take_X4_take rfl rfl rfl (by decide +kernel) ⟨Nat.le_of_ble_eq_true rfl, Nat.le_of_ble_eq_true rfl⟩) rfl hl rfl (Nat.le_of_ble_eq_true rfl) (by decide) dL_take_5 (fun E ce q9 H locs hp hR h1 h2 h3 => ?_)
  subst hp
  refine vx_catch (own := RL) (name := zIO) hown [] ⟨0, 10, 13, 13⟩ [⟨0, 10, 17, 17⟩] (by rw [hex]; rfl) (fun _ h => absurd h List.not_mem_nil) (by decide) (by decide) (hts (.classLink RL 13 zIO) (by decide +kernel)) (va_Nw.use rfl (hF.2.2.2.1 _ (by decide +kernel))) h1 h2 h3 ?_
  refine lv_astore (lv' := [(4, .ref (q9)), (0, .ref (ad 0)), (1, .int (nI (w))), (2, .int (y)), (3, .ref (oo))]) hx hb dL_take_13 hl (by decide) rfl (fun ls hl => ?_)
  refine lv_iconst (v := (nI 1)) hx hb dL_take_15 (by decide) ?_
  exact z_o_iret hx hb hr hlk hF hR dL_take_16 ⟨rfl, rfl⟩
set_option maxHeartbeats 4000000 in
set_option maxRecDepth 100000 in
theorem o_take_e3 {l : Launch} {D : va_G} {cI cZ cJ : ClassId} {ad : Nat → Nat} {B : Nat → Prop} {oo : Nat} (hG : ∀ S : zS, va_D B (wX cI cZ ad S)) (hoo : ¬ B oo) (hfl : l.stackTraces = false) (S : zS) (g : Nat → Int64) (w p : Nat) (hO : zOK S) (hw : w < zn S 22 0) (hp : p < 4) (hc : ¬ zcanT S p w) : zMW l yL_take wsL_take ({ frames := 8, cells := 1, slots := 6, locals := 156 } : Room) [.ref (ad 0), .int (nI (w)), .int (nI (p)), .ref (oo)] D (zT3 cI cZ cJ) (zBo B oo) (wO cI cZ cJ ad oo) (S, g) (fun (r : Int32) (u : zS × (Nat → Int64)) => r = nI 2 ∧ u.1 = S) := by
  refine zMW_of (cc := cL_take) (maxL := 5) (ret := (some .int)) (hh := [(0, 10, 13, 13), (0, 10, 17, 17)]) (by decide) rfl (Nat.le_of_ble_eq_true rfl) ?_
  intro pg en s mm below meth cd hx hb hr hml hown hts hlk hex hF hP0 ls hl
  have hl : lv_has ls 5 [(0, .ref (ad 0)), (1, .int (nI (w))), (2, .int (nI (p))), (3, .ref (oo))] := hl
  have hR : zO D cI cZ cJ ad oo B s s.heap [] S g := zO_of hP0
  refine lv_aload_n hx hb dL_take_0 rfl (lv_at hl 3 rfl) ?_
  refine lv_iconst (v := (nI 0)) hx hb dL_take_1 (by decide) ?_
  refine lv_aload_n hx hb dL_take_2 rfl (lv_at hl 0 rfl) ?_
  refine lv_iload_n hx hb dL_take_3 rfl (lv_at hl 1 rfl) ?_
  refine lv_iload_n hx hb dL_take_4 rfl (lv_at hl 2 rfl) ?_
  refine z_oV_x (As := [.int (nI (w)), .int (nI (p))]) (rest := [.int (nI 0), .ref oo]) ⟨hx, hb, hml, hown, hts⟩ hF hoo hR (c_X4_take_e3 hG hfl S w p hO hw hp hc) (cwV 2 hts gL_take_X4_take rfl rfl rfl (by decide +kernel) ⟨Nat.le_of_ble_eq_true rfl, Nat.le_of_ble_eq_true rfl⟩) rfl hl rfl (Nat.le_of_ble_eq_true rfl) (by decide) dL_take_5 (fun E ce q9 H locs hp hR h1 h2 h3 => ?_)
  subst hp
  refine vx_catch (own := RL) (name := zIS) hown [⟨0, 10, 13, 13⟩] ⟨0, 10, 17, 17⟩ [] (by rw [hex]; rfl) (List.forall_mem_cons.mpr ⟨Or.inr ⟨by decide, zIO, hts (.classLink RL 13 zIO) (by decide +kernel), hF.2.2.2.2.1 (zIS, zIO) (by decide +kernel)⟩, (fun _ h => absurd h List.not_mem_nil)⟩) (by decide) (by decide) (hts (.classLink RL 17 zIS) (by decide +kernel)) (va_Nw.use rfl (hF.2.2.2.1 _ (by decide +kernel))) h1 h2 h3 ?_
  refine lv_astore (lv' := [(4, .ref (q9)), (0, .ref (ad 0)), (1, .int (nI (w))), (2, .int (nI (p))), (3, .ref (oo))]) hx hb dL_take_17 hl (by decide) rfl (fun ls hl => ?_)
  refine lv_iconst (v := (nI 2)) hx hb dL_take_19 (by decide) ?_
  exact z_o_iret hx hb hr hlk hF hR dL_take_20 ⟨rfl, rfl⟩
set_option maxHeartbeats 4000000 in
set_option maxRecDepth 100000 in
theorem o_take_ok {l : Launch} {D : va_G} {cI cZ cJ : ClassId} {ad : Nat → Nat} {B : Nat → Prop} {oo : Nat} (hG : ∀ S : zS, va_D B (wX cI cZ ad S)) (hoo : ¬ B oo) (hfl : l.stackTraces = false) (S : zS) (g : Nat → Int64) (w p : Nat) (hO : zOK S) (hw : w < zn S 22 0) (hp : p < 4) (hc : zcanT S p w) : zMW l yL_take wsL_take ({ frames := 8, cells := 1, slots := 6, locals := 156 } : Room) [.ref (ad 0), .int (nI (w)), .int (nI (p)), .ref (oo)] D (zT3 cI cZ cJ) (zBo B oo) (wO cI cZ cJ ad oo) (S, g) (fun (r : Int32) (u : zS × (Nat → Int64)) => r = nI 0 ∧ u.1 = sp_tf S p w ∧ (u.2 0 = ((sp_tfr S p w)).toInt64)) := by
  refine zMW_of (cc := cL_take) (maxL := 5) (ret := (some .int)) (hh := [(0, 10, 13, 13), (0, 10, 17, 17)]) (by decide) rfl (Nat.le_of_ble_eq_true rfl) ?_
  intro pg en s mm below meth cd hx hb hr hml hown hts hlk hex hF hP0 ls hl
  have hl : lv_has ls 5 [(0, .ref (ad 0)), (1, .int (nI (w))), (2, .int (nI (p))), (3, .ref (oo))] := hl
  have hR : zO D cI cZ cJ ad oo B s s.heap [] S g := zO_of hP0
  refine lv_aload_n hx hb dL_take_0 rfl (lv_at hl 3 rfl) ?_
  refine lv_iconst (v := (nI 0)) hx hb dL_take_1 (by decide) ?_
  refine lv_aload_n hx hb dL_take_2 rfl (lv_at hl 0 rfl) ?_
  refine lv_iload_n hx hb dL_take_3 rfl (lv_at hl 1 rfl) ?_
  refine lv_iload_n hx hb dL_take_4 rfl (lv_at hl 2 rfl) ?_
  refine z_oV_i (As := [.int (nI (w)), .int (nI (p))]) (rest := [.int (nI 0), .ref oo]) ⟨hx, hb, hml, hown, hts⟩ hF hoo hR (c_X4_take_ok hG S w p hO hw hp hc) (cwV 2 hts gL_take_X4_take rfl rfl rfl (by decide +kernel) ⟨Nat.le_of_ble_eq_true rfl, Nat.le_of_ble_eq_true rfl⟩) rfl hl rfl (Nat.le_of_ble_eq_true rfl) (by decide) dL_take_5 (fun r S1 H locs hp hR => ?_)
  obtain ⟨hr1, hs⟩ := hp
  subst r
  subst S1
  refine lv_i2l (v := ((sp_tfr S p w)).toInt64) hx hb dL_take_8 rfl ?_
  refine z_o_last hx hb hF hR hG hoo dL_take_9 (fun H locs g1 hg hR => ?_)
  refine lv_goto (tgt := 21) hx hb dL_take_10 (by decide) ?_
  refine lv_iconst (v := (nI 0)) hx hb dL_take_21 (by decide) ?_
  refine W.widen (k := 1) (n := 6) (by decide) (by decide) ?_
  exact z_o_iret hx hb hr hlk hF hR dL_take_22 ⟨rfl, rfl, hg⟩
set_option maxHeartbeats 4000000 in
set_option maxRecDepth 100000 in
theorem o_pump_e1 {l : Launch} {D : va_G} {cI cZ cJ : ClassId} {ad : Nat → Nat} {B : Nat → Prop} {oo : Nat} (hG : ∀ S : zS, va_D B (wX cI cZ ad S)) (hoo : ¬ B oo) (hfl : l.stackTraces = false) (S : zS) (g : Nat → Int64) (z : Int32) (hO : zOK S) (hz : zbadv z 1 20) : zMW l yL_pump wsL_pump ({ frames := 8, cells := 1, slots := 6, locals := 180 } : Room) [.ref (ad 0), .int (z), .ref (oo)] D (zT3 cI cZ cJ) (zBo B oo) (wO cI cZ cJ ad oo) (S, g) (fun (r : Int32) (u : zS × (Nat → Int64)) => r = nI 1 ∧ u.1 = S) := by
  refine zMW_of (cc := cL_pump) (maxL := 4) (ret := (some .int)) (hh := [(0, 9, 12, 15)]) (by decide) rfl (Nat.le_of_ble_eq_true rfl) ?_
  intro pg en s mm below meth cd hx hb hr hml hown hts hlk hex hF hP0 ls hl
  have hl : lv_has ls 4 [(0, .ref (ad 0)), (1, .int (z)), (2, .ref (oo))] := hl
  have hR : zO D cI cZ cJ ad oo B s s.heap [] S g := zO_of hP0
  refine lv_aload_n hx hb dL_pump_0 rfl (lv_at hl 2 rfl) ?_
  refine lv_iconst (v := (nI 0)) hx hb dL_pump_1 (by decide) ?_
  refine lv_aload_n hx hb dL_pump_2 rfl (lv_at hl 0 rfl) ?_
  refine lv_iload_n hx hb dL_pump_3 rfl (lv_at hl 1 rfl) ?_
  refine z_oV_x (As := [.int (z)]) (rest := [.int (nI 0), .ref oo]) ⟨hx, hb, hml, hown, hts⟩ hF hoo hR (c_X4_pump_e1 hG hfl S z hO hz) (cwV 1 hts gL_pump_X4_pump rfl rfl rfl (by decide +kernel) ⟨Nat.le_of_ble_eq_true rfl, Nat.le_of_ble_eq_true rfl⟩) rfl hl rfl (Nat.le_of_ble_eq_true rfl) (by decide) dL_pump_4 (fun E ce q9 H locs hp hR h1 h2 h3 => ?_)
  subst hp
  refine vx_catch (own := RL) (name := zIA) hown [] ⟨0, 9, 12, 15⟩ [] (by rw [hex]; rfl) (fun _ h => absurd h List.not_mem_nil) (by decide) (by decide) (hts (.classLink RL 15 zIA) (by decide +kernel)) (va_Nw.use rfl (hF.2.2.2.1 _ (by decide +kernel))) h1 h2 h3 ?_
  refine lv_astore_n (lv' := [(3, .ref (q9)), (0, .ref (ad 0)), (1, .int (z)), (2, .ref (oo))]) hx hb dL_pump_12 rfl hl (by decide) rfl (fun ls hl => ?_)
  refine lv_iconst (v := (nI 1)) hx hb dL_pump_13 (by decide) ?_
  exact z_o_iret hx hb hr hlk hF hR dL_pump_14 ⟨rfl, rfl⟩
set_option maxHeartbeats 4000000 in
set_option maxRecDepth 100000 in
theorem o_pump_ok {l : Launch} {D : va_G} {cI cZ cJ : ClassId} {ad : Nat → Nat} {B : Nat → Prop} {oo : Nat} (hG : ∀ S : zS, va_D B (wX cI cZ ad S)) (hoo : ¬ B oo) (hfl : l.stackTraces = false) (S : zS) (g : Nat → Int64) (t : Nat) (hO : zOK S) (hv : 1 ≤ t) (hv2 : t ≤ 20) : zMW l yL_pump wsL_pump ({ frames := 8, cells := 1, slots := 6, locals := 180 } : Room) [.ref (ad 0), .int (nI (t)), .ref (oo)] D (zT3 cI cZ cJ) (zBo B oo) (wO cI cZ cJ ad oo) (S, g) (fun (r : Int32) (u : zS × (Nat → Int64)) => r = nI 0 ∧ u.1 = sp_pm S t ∧ (u.2 0 = ((nI (sp_pmc S t))).toInt64)) := by
  refine zMW_of (cc := cL_pump) (maxL := 4) (ret := (some .int)) (hh := [(0, 9, 12, 15)]) (by decide) rfl (Nat.le_of_ble_eq_true rfl) ?_
  intro pg en s mm below meth cd hx hb hr hml hown hts hlk hex hF hP0 ls hl
  have hl : lv_has ls 4 [(0, .ref (ad 0)), (1, .int (nI (t))), (2, .ref (oo))] := hl
  have hR : zO D cI cZ cJ ad oo B s s.heap [] S g := zO_of hP0
  refine lv_aload_n hx hb dL_pump_0 rfl (lv_at hl 2 rfl) ?_
  refine lv_iconst (v := (nI 0)) hx hb dL_pump_1 (by decide) ?_
  refine lv_aload_n hx hb dL_pump_2 rfl (lv_at hl 0 rfl) ?_
  refine lv_iload_n hx hb dL_pump_3 rfl (lv_at hl 1 rfl) ?_
  refine z_oV_i (As := [.int (nI (t))]) (rest := [.int (nI 0), .ref oo]) ⟨hx, hb, hml, hown, hts⟩ hF hoo hR (c_X4_pump_ok hG S t hO hv hv2) (cwV 1 hts gL_pump_X4_pump rfl rfl rfl (by decide +kernel) ⟨Nat.le_of_ble_eq_true rfl, Nat.le_of_ble_eq_true rfl⟩) rfl hl rfl (Nat.le_of_ble_eq_true rfl) (by decide) dL_pump_4 (fun r S1 H locs hp hR => ?_)
  obtain ⟨hr1, hs⟩ := hp
  subst r
  subst S1
  refine lv_i2l (v := ((nI (sp_pmc S t))).toInt64) hx hb dL_pump_7 rfl ?_
  refine z_o_last hx hb hF hR hG hoo dL_pump_8 (fun H locs g1 hg hR => ?_)
  refine lv_goto (tgt := 15) hx hb dL_pump_9 (by decide) ?_
  refine lv_iconst (v := (nI 0)) hx hb dL_pump_15 (by decide) ?_
  refine W.widen (k := 1) (n := 6) (by decide) (by decide) ?_
  exact z_o_iret hx hb hr hlk hF hR dL_pump_16 ⟨rfl, rfl, hg⟩
set_option maxHeartbeats 4000000 in
set_option maxRecDepth 100000 in
theorem o_commit_e1 {l : Launch} {D : va_G} {cI cZ cJ : ClassId} {ad : Nat → Nat} {B : Nat → Prop} {oo : Nat} (hG : ∀ S : zS, va_D B (wX cI cZ ad S)) (hoo : ¬ B oo) (hfl : l.stackTraces = false) (S : zS) (g : Nat → Int64) (x : Int32) (hO : zOK S) (hxb : zbad x (zn S 22 0)) : zMW l yL_commit wsL_commit ({ frames := 8, cells := 1, slots := 6, locals := 124 } : Room) [.ref (ad 0), .int (x), .ref (oo)] D (zT3 cI cZ cJ) (zBo B oo) (wO cI cZ cJ ad oo) (S, g) (fun (r : Int32) (u : zS × (Nat → Int64)) => r = nI 1 ∧ u.1 = S) := by
  refine zMW_of (cc := cL_commit) (maxL := 4) (ret := (some .int)) (hh := [(0, 9, 12, 13), (0, 9, 15, 17)]) (by decide) rfl (Nat.le_of_ble_eq_true rfl) ?_
  intro pg en s mm below meth cd hx hb hr hml hown hts hlk hex hF hP0 ls hl
  have hl : lv_has ls 4 [(0, .ref (ad 0)), (1, .int (x)), (2, .ref (oo))] := hl
  have hR : zO D cI cZ cJ ad oo B s s.heap [] S g := zO_of hP0
  refine lv_aload_n hx hb dL_commit_0 rfl (lv_at hl 2 rfl) ?_
  refine lv_iconst (v := (nI 0)) hx hb dL_commit_1 (by decide) ?_
  refine lv_aload_n hx hb dL_commit_2 rfl (lv_at hl 0 rfl) ?_
  refine lv_iload_n hx hb dL_commit_3 rfl (lv_at hl 1 rfl) ?_
  refine z_oV_x (As := [.int (x)]) (rest := [.int (nI 0), .ref oo]) ⟨hx, hb, hml, hown, hts⟩ hF hoo hR (c_X4_commit_e1 hG hfl S x hO hxb) (cwV 1 hts gL_commit_X4_commit rfl rfl rfl (by decide +kernel) ⟨Nat.le_of_ble_eq_true rfl, Nat.le_of_ble_eq_true rfl⟩) rfl hl rfl (Nat.le_of_ble_eq_true rfl) (by decide) dL_commit_4 (fun E ce q9 H locs hp hR h1 h2 h3 => ?_)
  subst hp
  refine vx_catch (own := RL) (name := zIO) hown [] ⟨0, 9, 12, 13⟩ [⟨0, 9, 15, 17⟩] (by rw [hex]; rfl) (fun _ h => absurd h List.not_mem_nil) (by decide) (by decide) (hts (.classLink RL 13 zIO) (by decide +kernel)) (va_Nw.use rfl (hF.2.2.2.1 _ (by decide +kernel))) h1 h2 h3 ?_
  refine lv_astore_n (lv' := [(3, .ref (q9)), (0, .ref (ad 0)), (1, .int (x)), (2, .ref (oo))]) hx hb dL_commit_12 rfl hl (by decide) rfl (fun ls hl => ?_)
  refine lv_iconst (v := (nI 1)) hx hb dL_commit_13 (by decide) ?_
  exact z_o_iret hx hb hr hlk hF hR dL_commit_14 ⟨rfl, rfl⟩
set_option maxHeartbeats 4000000 in
set_option maxRecDepth 100000 in
theorem o_commit_e2 {l : Launch} {D : va_G} {cI cZ cJ : ClassId} {ad : Nat → Nat} {B : Nat → Prop} {oo : Nat} (hG : ∀ S : zS, va_D B (wX cI cZ ad S)) (hoo : ¬ B oo) (hfl : l.stackTraces = false) (S : zS) (g : Nat → Int64) (w : Nat) (hO : zOK S) (hw : w < zn S 22 0) (hc : ¬ zrdy S w) : zMW l yL_commit wsL_commit ({ frames := 8, cells := 1, slots := 6, locals := 124 } : Room) [.ref (ad 0), .int (nI (w)), .ref (oo)] D (zT3 cI cZ cJ) (zBo B oo) (wO cI cZ cJ ad oo) (S, g) (fun (r : Int32) (u : zS × (Nat → Int64)) => r = nI 2 ∧ u.1 = S) := by
  refine zMW_of (cc := cL_commit) (maxL := 4) (ret := (some .int)) (hh := [(0, 9, 12, 13), (0, 9, 15, 17)]) (by decide) rfl (Nat.le_of_ble_eq_true rfl) ?_
  intro pg en s mm below meth cd hx hb hr hml hown hts hlk hex hF hP0 ls hl
  have hl : lv_has ls 4 [(0, .ref (ad 0)), (1, .int (nI (w))), (2, .ref (oo))] := hl
  have hR : zO D cI cZ cJ ad oo B s s.heap [] S g := zO_of hP0
  refine lv_aload_n hx hb dL_commit_0 rfl (lv_at hl 2 rfl) ?_
  refine lv_iconst (v := (nI 0)) hx hb dL_commit_1 (by decide) ?_
  refine lv_aload_n hx hb dL_commit_2 rfl (lv_at hl 0 rfl) ?_
  refine lv_iload_n hx hb dL_commit_3 rfl (lv_at hl 1 rfl) ?_
  refine z_oV_x (As := [.int (nI (w))]) (rest := [.int (nI 0), .ref oo]) ⟨hx, hb, hml, hown, hts⟩ hF hoo hR (c_X4_commit_e2 hG hfl S w hO hw hc) (cwV 1 hts gL_commit_X4_commit rfl rfl rfl (by decide +kernel) ⟨Nat.le_of_ble_eq_true rfl, Nat.le_of_ble_eq_true rfl⟩) rfl hl rfl (Nat.le_of_ble_eq_true rfl) (by decide) dL_commit_4 (fun E ce q9 H locs hp hR h1 h2 h3 => ?_)
  subst hp
  refine vx_catch (own := RL) (name := zIS) hown [⟨0, 9, 12, 13⟩] ⟨0, 9, 15, 17⟩ [] (by rw [hex]; rfl) (List.forall_mem_cons.mpr ⟨Or.inr ⟨by decide, zIO, hts (.classLink RL 13 zIO) (by decide +kernel), hF.2.2.2.2.1 (zIS, zIO) (by decide +kernel)⟩, (fun _ h => absurd h List.not_mem_nil)⟩) (by decide) (by decide) (hts (.classLink RL 17 zIS) (by decide +kernel)) (va_Nw.use rfl (hF.2.2.2.1 _ (by decide +kernel))) h1 h2 h3 ?_
  refine lv_astore_n (lv' := [(3, .ref (q9)), (0, .ref (ad 0)), (1, .int (nI (w))), (2, .ref (oo))]) hx hb dL_commit_15 rfl hl (by decide) rfl (fun ls hl => ?_)
  refine lv_iconst (v := (nI 2)) hx hb dL_commit_16 (by decide) ?_
  exact z_o_iret hx hb hr hlk hF hR dL_commit_17 ⟨rfl, rfl⟩
set_option maxHeartbeats 4000000 in
set_option maxRecDepth 100000 in
theorem o_commit_ok {l : Launch} {D : va_G} {cI cZ cJ : ClassId} {ad : Nat → Nat} {B : Nat → Prop} {oo : Nat} (hG : ∀ S : zS, va_D B (wX cI cZ ad S)) (hoo : ¬ B oo) (hfl : l.stackTraces = false) (S : zS) (g : Nat → Int64) (w : Nat) (hO : zOK S) (hw : w < zn S 22 0) (hc : zrdy S w) : zMW l yL_commit wsL_commit ({ frames := 8, cells := 1, slots := 6, locals := 124 } : Room) [.ref (ad 0), .int (nI (w)), .ref (oo)] D (zT3 cI cZ cJ) (zBo B oo) (wO cI cZ cJ ad oo) (S, g) (fun (r : Int32) (u : zS × (Nat → Int64)) => r = nI 0 ∧ u.1 = sp_com S w ∧ (u.2 0 = ((sp_comr S w)).toInt64)) := by
  refine zMW_of (cc := cL_commit) (maxL := 4) (ret := (some .int)) (hh := [(0, 9, 12, 13), (0, 9, 15, 17)]) (by decide) rfl (Nat.le_of_ble_eq_true rfl) ?_
  intro pg en s mm below meth cd hx hb hr hml hown hts hlk hex hF hP0 ls hl
  have hl : lv_has ls 4 [(0, .ref (ad 0)), (1, .int (nI (w))), (2, .ref (oo))] := hl
  have hR : zO D cI cZ cJ ad oo B s s.heap [] S g := zO_of hP0
  refine lv_aload_n hx hb dL_commit_0 rfl (lv_at hl 2 rfl) ?_
  refine lv_iconst (v := (nI 0)) hx hb dL_commit_1 (by decide) ?_
  refine lv_aload_n hx hb dL_commit_2 rfl (lv_at hl 0 rfl) ?_
  refine lv_iload_n hx hb dL_commit_3 rfl (lv_at hl 1 rfl) ?_
  refine z_oV_i (As := [.int (nI (w))]) (rest := [.int (nI 0), .ref oo]) ⟨hx, hb, hml, hown, hts⟩ hF hoo hR (c_X4_commit_ok hG S w hO hw hc) (cwV 1 hts gL_commit_X4_commit rfl rfl rfl (by decide +kernel) ⟨Nat.le_of_ble_eq_true rfl, Nat.le_of_ble_eq_true rfl⟩) rfl hl rfl (Nat.le_of_ble_eq_true rfl) (by decide) dL_commit_4 (fun r S1 H locs hp hR => ?_)
  obtain ⟨hr1, hs⟩ := hp
  subst r
  subst S1
  refine lv_i2l (v := ((sp_comr S w)).toInt64) hx hb dL_commit_7 rfl ?_
  refine z_o_last hx hb hF hR hG hoo dL_commit_8 (fun H locs g1 hg hR => ?_)
  refine lv_goto (tgt := 18) hx hb dL_commit_9 (by decide) ?_
  refine lv_iconst (v := (nI 0)) hx hb dL_commit_18 (by decide) ?_
  refine W.widen (k := 1) (n := 6) (by decide) (by decide) ?_
  exact z_o_iret hx hb hr hlk hF hR dL_commit_19 ⟨rfl, rfl, hg⟩
set_option maxHeartbeats 4000000 in
set_option maxRecDepth 100000 in
theorem o_beginCheckpoint_e1 {l : Launch} {D : va_G} {cI cZ cJ : ClassId} {ad : Nat → Nat} {B : Nat → Prop} {oo : Nat} (hG : ∀ S : zS, va_D B (wX cI cZ ad S)) (hoo : ¬ B oo) (hfl : l.stackTraces = false) (S : zS) (g : Nat → Int64) (hO : zOK S) (hc : ¬ S 22 2 = (-1) ∨ ¬ ∀ w, w < zn S 22 0 → S 21 w = (-1)) : zMW l yL_beginCheckpoint wsL_beginCheckpoint ({ frames := 7, cells := 1, slots := 6, locals := 102 } : Room) [.ref (ad 0), .ref (oo)] D (zT3 cI cZ cJ) (zBo B oo) (wO cI cZ cJ ad oo) (S, g) (fun (r : Int32) (u : zS × (Nat → Int64)) => r = nI 1 ∧ u.1 = S) := by
  refine zMW_of (cc := cL_beginCheckpoint) (maxL := 3) (ret := (some .int)) (hh := [(0, 8, 11, 17)]) (by decide) rfl (Nat.le_of_ble_eq_true rfl) ?_
  intro pg en s mm below meth cd hx hb hr hml hown hts hlk hex hF hP0 ls hl
  have hl : lv_has ls 3 [(0, .ref (ad 0)), (1, .ref (oo))] := hl
  have hR : zO D cI cZ cJ ad oo B s s.heap [] S g := zO_of hP0
  refine lv_aload_n hx hb dL_beginCheckpoint_0 rfl (lv_at hl 1 rfl) ?_
  refine lv_iconst (v := (nI 0)) hx hb dL_beginCheckpoint_1 (by decide) ?_
  refine lv_aload_n hx hb dL_beginCheckpoint_2 rfl (lv_at hl 0 rfl) ?_
  refine z_oV_x (As := []) (rest := [.int (nI 0), .ref oo]) ⟨hx, hb, hml, hown, hts⟩ hF hoo hR (c_X4_beginCheckpoint_e1 hG hfl S hO hc) (cwV 0 hts gL_beginCheckpoint_X4_beginCheckpoint rfl rfl rfl (by decide +kernel) ⟨Nat.le_of_ble_eq_true rfl, Nat.le_of_ble_eq_true rfl⟩) rfl hl rfl (Nat.le_of_ble_eq_true rfl) (by decide) dL_beginCheckpoint_3 (fun E ce q9 H locs hp hR h1 h2 h3 => ?_)
  subst hp
  refine vx_catch (own := RL) (name := zIS) hown [] ⟨0, 8, 11, 17⟩ [] (by rw [hex]; rfl) (fun _ h => absurd h List.not_mem_nil) (by decide) (by decide) (hts (.classLink RL 17 zIS) (by decide +kernel)) (va_Nw.use rfl (hF.2.2.2.1 _ (by decide +kernel))) h1 h2 h3 ?_
  refine lv_astore_n (lv' := [(2, .ref (q9)), (0, .ref (ad 0)), (1, .ref (oo))]) hx hb dL_beginCheckpoint_11 rfl hl (by decide) rfl (fun ls hl => ?_)
  refine lv_iconst (v := (nI 1)) hx hb dL_beginCheckpoint_12 (by decide) ?_
  exact z_o_iret hx hb hr hlk hF hR dL_beginCheckpoint_13 ⟨rfl, rfl⟩
set_option maxHeartbeats 4000000 in
set_option maxRecDepth 100000 in
theorem o_beginCheckpoint_ok {l : Launch} {D : va_G} {cI cZ cJ : ClassId} {ad : Nat → Nat} {B : Nat → Prop} {oo : Nat} (hG : ∀ S : zS, va_D B (wX cI cZ ad S)) (hoo : ¬ B oo) (hfl : l.stackTraces = false) (S : zS) (g : Nat → Int64) (hO : zOK S) (hc1 : S 22 2 = (-1)) (hc : ∀ w, w < zn S 22 0 → S 21 w = (-1)) : zMW l yL_beginCheckpoint wsL_beginCheckpoint ({ frames := 2, cells := 1, slots := 6, locals := 41 } : Room) [.ref (ad 0), .ref (oo)] D (zT3 cI cZ cJ) (zBo B oo) (wO cI cZ cJ ad oo) (S, g) (fun (r : Int32) (u : zS × (Nat → Int64)) => r = nI 0 ∧ u.1 = sp_beg S ∧ (u.2 0 = ((S 22 1 + nI 1)).toInt64)) := by
  refine zMW_of (cc := cL_beginCheckpoint) (maxL := 3) (ret := (some .int)) (hh := [(0, 8, 11, 17)]) (by decide) rfl (Nat.le_of_ble_eq_true rfl) ?_
  intro pg en s mm below meth cd hx hb hr hml hown hts hlk hex hF hP0 ls hl
  have hl : lv_has ls 3 [(0, .ref (ad 0)), (1, .ref (oo))] := hl
  have hR : zO D cI cZ cJ ad oo B s s.heap [] S g := zO_of hP0
  refine lv_aload_n hx hb dL_beginCheckpoint_0 rfl (lv_at hl 1 rfl) ?_
  refine lv_iconst (v := (nI 0)) hx hb dL_beginCheckpoint_1 (by decide) ?_
  refine lv_aload_n hx hb dL_beginCheckpoint_2 rfl (lv_at hl 0 rfl) ?_
  refine z_oV_i (As := []) (rest := [.int (nI 0), .ref oo]) ⟨hx, hb, hml, hown, hts⟩ hF hoo hR (c_X4_beginCheckpoint_ok hG S hO hc1 hc) (cwV 0 hts gL_beginCheckpoint_X4_beginCheckpoint rfl rfl rfl (by decide +kernel) ⟨Nat.le_of_ble_eq_true rfl, Nat.le_of_ble_eq_true rfl⟩) rfl hl rfl (Nat.le_of_ble_eq_true rfl) (by decide) dL_beginCheckpoint_3 (fun r S1 H locs hp hR => ?_)
  obtain ⟨hr1, hs⟩ := hp
  subst r
  subst S1
  refine lv_i2l (v := ((S 22 1 + nI 1)).toInt64) hx hb dL_beginCheckpoint_6 rfl ?_
  refine z_o_last hx hb hF hR hG hoo dL_beginCheckpoint_7 (fun H locs g1 hg hR => ?_)
  refine lv_goto (tgt := 14) hx hb dL_beginCheckpoint_8 (by decide) ?_
  refine lv_iconst (v := (nI 0)) hx hb dL_beginCheckpoint_14 (by decide) ?_
  refine W.widen (k := 1) (n := 6) (by decide) (by decide) ?_
  exact z_o_iret hx hb hr hlk hF hR dL_beginCheckpoint_15 ⟨rfl, rfl, hg⟩
set_option maxHeartbeats 4000000 in
set_option maxRecDepth 100000 in
theorem o_abandon_e1 {l : Launch} {D : va_G} {cI cZ cJ : ClassId} {ad : Nat → Nat} {B : Nat → Prop} {oo : Nat} (hG : ∀ S : zS, va_D B (wX cI cZ ad S)) (hoo : ¬ B oo) (hfl : l.stackTraces = false) (S : zS) (g : Nat → Int64) (hO : zOK S) (hc : S 22 2 = (-1)) : zMW l yL_abandon wsL_abandon ({ frames := 7, cells := 1, slots := 6, locals := 104 } : Room) [.ref (ad 0), .ref (oo)] D (zT3 cI cZ cJ) (zBo B oo) (wO cI cZ cJ ad oo) (S, g) (fun (r : Int32) (u : zS × (Nat → Int64)) => r = nI 1 ∧ u.1 = S) := by
  refine zMW_of (cc := cL_abandon) (maxL := 3) (ret := (some .int)) (hh := [(0, 8, 11, 17)]) (by decide) rfl (Nat.le_of_ble_eq_true rfl) ?_
  intro pg en s mm below meth cd hx hb hr hml hown hts hlk hex hF hP0 ls hl
  have hl : lv_has ls 3 [(0, .ref (ad 0)), (1, .ref (oo))] := hl
  have hR : zO D cI cZ cJ ad oo B s s.heap [] S g := zO_of hP0
  refine lv_aload_n hx hb dL_abandon_0 rfl (lv_at hl 1 rfl) ?_
  refine lv_iconst (v := (nI 0)) hx hb dL_abandon_1 (by decide) ?_
  refine lv_aload_n hx hb dL_abandon_2 rfl (lv_at hl 0 rfl) ?_
  refine z_oV_x (As := []) (rest := [.int (nI 0), .ref oo]) ⟨hx, hb, hml, hown, hts⟩ hF hoo hR (c_X4_abandon_e1 hG hfl S hO hc) (cwV 0 hts gL_abandon_X4_abandon rfl rfl rfl (by decide +kernel) ⟨Nat.le_of_ble_eq_true rfl, Nat.le_of_ble_eq_true rfl⟩) rfl hl rfl (Nat.le_of_ble_eq_true rfl) (by decide) dL_abandon_3 (fun E ce q9 H locs hp hR h1 h2 h3 => ?_)
  subst hp
  refine vx_catch (own := RL) (name := zIS) hown [] ⟨0, 8, 11, 17⟩ [] (by rw [hex]; rfl) (fun _ h => absurd h List.not_mem_nil) (by decide) (by decide) (hts (.classLink RL 17 zIS) (by decide +kernel)) (va_Nw.use rfl (hF.2.2.2.1 _ (by decide +kernel))) h1 h2 h3 ?_
  refine lv_astore_n (lv' := [(2, .ref (q9)), (0, .ref (ad 0)), (1, .ref (oo))]) hx hb dL_abandon_11 rfl hl (by decide) rfl (fun ls hl => ?_)
  refine lv_iconst (v := (nI 1)) hx hb dL_abandon_12 (by decide) ?_
  exact z_o_iret hx hb hr hlk hF hR dL_abandon_13 ⟨rfl, rfl⟩
set_option maxHeartbeats 4000000 in
set_option maxRecDepth 100000 in
theorem o_abandon_ok {l : Launch} {D : va_G} {cI cZ cJ : ClassId} {ad : Nat → Nat} {B : Nat → Prop} {oo : Nat} (hG : ∀ S : zS, va_D B (wX cI cZ ad S)) (hoo : ¬ B oo) (hfl : l.stackTraces = false) (S : zS) (g : Nat → Int64) (hO : zOK S) (hc : ¬ S 22 2 = (-1)) : zMW l yL_abandon wsL_abandon ({ frames := 4, cells := 1, slots := 6, locals := 89 } : Room) [.ref (ad 0), .ref (oo)] D (zT3 cI cZ cJ) (zBo B oo) (wO cI cZ cJ ad oo) (S, g) (fun (r : Int32) (u : zS × (Nat → Int64)) => r = nI 0 ∧ u.1 = sp_ab S ∧ (u.2 0 = ((S 22 2)).toInt64)) := by
  refine zMW_of (cc := cL_abandon) (maxL := 3) (ret := (some .int)) (hh := [(0, 8, 11, 17)]) (by decide) rfl (Nat.le_of_ble_eq_true rfl) ?_
  intro pg en s mm below meth cd hx hb hr hml hown hts hlk hex hF hP0 ls hl
  have hl : lv_has ls 3 [(0, .ref (ad 0)), (1, .ref (oo))] := hl
  have hR : zO D cI cZ cJ ad oo B s s.heap [] S g := zO_of hP0
  refine lv_aload_n hx hb dL_abandon_0 rfl (lv_at hl 1 rfl) ?_
  refine lv_iconst (v := (nI 0)) hx hb dL_abandon_1 (by decide) ?_
  refine lv_aload_n hx hb dL_abandon_2 rfl (lv_at hl 0 rfl) ?_
  refine z_oV_i (As := []) (rest := [.int (nI 0), .ref oo]) ⟨hx, hb, hml, hown, hts⟩ hF hoo hR (c_X4_abandon_ok hG S hO hc) (cwV 0 hts gL_abandon_X4_abandon rfl rfl rfl (by decide +kernel) ⟨Nat.le_of_ble_eq_true rfl, Nat.le_of_ble_eq_true rfl⟩) rfl hl rfl (Nat.le_of_ble_eq_true rfl) (by decide) dL_abandon_3 (fun r S1 H locs hp hR => ?_)
  obtain ⟨hr1, hs⟩ := hp
  subst r
  subst S1
  refine lv_i2l (v := ((S 22 2)).toInt64) hx hb dL_abandon_6 rfl ?_
  refine z_o_last hx hb hF hR hG hoo dL_abandon_7 (fun H locs g1 hg hR => ?_)
  refine lv_goto (tgt := 14) hx hb dL_abandon_8 (by decide) ?_
  refine lv_iconst (v := (nI 0)) hx hb dL_abandon_14 (by decide) ?_
  refine W.widen (k := 1) (n := 6) (by decide) (by decide) ?_
  exact z_o_iret hx hb hr hlk hF hR dL_abandon_15 ⟨rfl, rfl, hg⟩
set_option maxHeartbeats 4000000 in
set_option maxRecDepth 100000 in
theorem o_rescale_e1 {l : Launch} {D : va_G} {cI cZ cJ : ClassId} {ad : Nat → Nat} {B : Nat → Prop} {oo : Nat} (hG : ∀ S : zS, va_D B (wX cI cZ ad S)) (hoo : ¬ B oo) (hfl : l.stackTraces = false) (S : zS) (g : Nat → Int64) (z : Int32) (hO : zOK S) (hz : zbadv z 1 4) : zMW l yL_rescale wsL_rescale ({ frames := 7, cells := 1, slots := 6, locals := 133 } : Room) [.ref (ad 0), .int (z), .ref (oo)] D (zT3 cI cZ cJ) (zBo B oo) (wO cI cZ cJ ad oo) (S, g) (fun (r : Int32) (u : zS × (Nat → Int64)) => r = nI 1 ∧ u.1 = S) := by
  refine zMW_of (cc := cL_rescale) (maxL := 4) (ret := (some .int)) (hh := [(0, 9, 12, 15)]) (by decide) rfl (Nat.le_of_ble_eq_true rfl) ?_
  intro pg en s mm below meth cd hx hb hr hml hown hts hlk hex hF hP0 ls hl
  have hl : lv_has ls 4 [(0, .ref (ad 0)), (1, .int (z)), (2, .ref (oo))] := hl
  have hR : zO D cI cZ cJ ad oo B s s.heap [] S g := zO_of hP0
  refine lv_aload_n hx hb dL_rescale_0 rfl (lv_at hl 2 rfl) ?_
  refine lv_iconst (v := (nI 0)) hx hb dL_rescale_1 (by decide) ?_
  refine lv_aload_n hx hb dL_rescale_2 rfl (lv_at hl 0 rfl) ?_
  refine lv_iload_n hx hb dL_rescale_3 rfl (lv_at hl 1 rfl) ?_
  refine z_oV_x (As := [.int (z)]) (rest := [.int (nI 0), .ref oo]) ⟨hx, hb, hml, hown, hts⟩ hF hoo hR (c_X4_rescale_e1 hG hfl S z hO hz) (cwV 1 hts gL_rescale_X4_rescale rfl rfl rfl (by decide +kernel) ⟨Nat.le_of_ble_eq_true rfl, Nat.le_of_ble_eq_true rfl⟩) rfl hl rfl (Nat.le_of_ble_eq_true rfl) (by decide) dL_rescale_4 (fun E ce q9 H locs hp hR h1 h2 h3 => ?_)
  subst hp
  refine vx_catch (own := RL) (name := zIA) hown [] ⟨0, 9, 12, 15⟩ [] (by rw [hex]; rfl) (fun _ h => absurd h List.not_mem_nil) (by decide) (by decide) (hts (.classLink RL 15 zIA) (by decide +kernel)) (va_Nw.use rfl (hF.2.2.2.1 _ (by decide +kernel))) h1 h2 h3 ?_
  refine lv_astore_n (lv' := [(3, .ref (q9)), (0, .ref (ad 0)), (1, .int (z)), (2, .ref (oo))]) hx hb dL_rescale_12 rfl hl (by decide) rfl (fun ls hl => ?_)
  refine lv_iconst (v := (nI 1)) hx hb dL_rescale_13 (by decide) ?_
  exact z_o_iret hx hb hr hlk hF hR dL_rescale_14 ⟨rfl, rfl⟩
set_option maxHeartbeats 4000000 in
set_option maxRecDepth 100000 in
theorem o_rescale_ok {l : Launch} {D : va_G} {cI cZ cJ : ClassId} {ad : Nat → Nat} {B : Nat → Prop} {oo : Nat} (hG : ∀ S : zS, va_D B (wX cI cZ ad S)) (hoo : ¬ B oo) (hfl : l.stackTraces = false) (S : zS) (g : Nat → Int64) (v : Nat) (hO : zOK S) (hv : 1 ≤ v) (hv2 : v ≤ 4) : zMW l yL_rescale wsL_rescale ({ frames := 6, cells := 1, slots := 6, locals := 133 } : Room) [.ref (ad 0), .int (nI (v)), .ref (oo)] D (zT3 cI cZ cJ) (zBo B oo) (wO cI cZ cJ ad oo) (S, g) (fun (r : Int32) (u : zS × (Nat → Int64)) => r = nI 0 ∧ u.1 = sp_sa S v ∧ (u.2 0 = ((nI (sp_mg v (zn S 22 0) 8))).toInt64)) := by
  refine zMW_of (cc := cL_rescale) (maxL := 4) (ret := (some .int)) (hh := [(0, 9, 12, 15)]) (by decide) rfl (Nat.le_of_ble_eq_true rfl) ?_
  intro pg en s mm below meth cd hx hb hr hml hown hts hlk hex hF hP0 ls hl
  have hl : lv_has ls 4 [(0, .ref (ad 0)), (1, .int (nI (v))), (2, .ref (oo))] := hl
  have hR : zO D cI cZ cJ ad oo B s s.heap [] S g := zO_of hP0
  refine lv_aload_n hx hb dL_rescale_0 rfl (lv_at hl 2 rfl) ?_
  refine lv_iconst (v := (nI 0)) hx hb dL_rescale_1 (by decide) ?_
  refine lv_aload_n hx hb dL_rescale_2 rfl (lv_at hl 0 rfl) ?_
  refine lv_iload_n hx hb dL_rescale_3 rfl (lv_at hl 1 rfl) ?_
  refine z_oV_i (As := [.int (nI (v))]) (rest := [.int (nI 0), .ref oo]) ⟨hx, hb, hml, hown, hts⟩ hF hoo hR (c_X4_rescale_ok hG S v hO hv hv2) (cwV 1 hts gL_rescale_X4_rescale rfl rfl rfl (by decide +kernel) ⟨Nat.le_of_ble_eq_true rfl, Nat.le_of_ble_eq_true rfl⟩) rfl hl rfl (Nat.le_of_ble_eq_true rfl) (by decide) dL_rescale_4 (fun r S1 H locs hp hR => ?_)
  obtain ⟨hr1, hs⟩ := hp
  subst r
  subst S1
  refine lv_i2l (v := ((nI (sp_mg v (zn S 22 0) 8))).toInt64) hx hb dL_rescale_7 rfl ?_
  refine z_o_last hx hb hF hR hG hoo dL_rescale_8 (fun H locs g1 hg hR => ?_)
  refine lv_goto (tgt := 15) hx hb dL_rescale_9 (by decide) ?_
  refine lv_iconst (v := (nI 0)) hx hb dL_rescale_15 (by decide) ?_
  refine W.widen (k := 1) (n := 6) (by decide) (by decide) ?_
  exact z_o_iret hx hb hr hlk hF hR dL_rescale_16 ⟨rfl, rfl, hg⟩
set_option maxHeartbeats 4000000 in
set_option maxRecDepth 100000 in
theorem o_events_e1 {l : Launch} {D : va_G} {cI cZ cJ : ClassId} {ad : Nat → Nat} {B : Nat → Prop} {oo : Nat} (hG : ∀ S : zS, va_D B (wX cI cZ ad S)) (hoo : ¬ B oo) (hfl : l.stackTraces = false) (S : zS) (g : Nat → Int64) (x : Int32) (hO : zOK S) (hxb : zbad x 4) : zMW l yL_events wsL_events ({ frames := 8, cells := 1, slots := 6, locals := 123 } : Room) [.ref (ad 0), .int (x), .ref (oo)] D (zT3 cI cZ cJ) (zBo B oo) (wO cI cZ cJ ad oo) (S, g) (fun (r : Int32) (u : zS × (Nat → Int64)) => r = nI 1 ∧ u.1 = S) := by
  refine zMW_of (cc := cL_events) (maxL := 4) (ret := (some .int)) (hh := [(0, 9, 12, 13)]) (by decide) rfl (Nat.le_of_ble_eq_true rfl) ?_
  intro pg en s mm below meth cd hx hb hr hml hown hts hlk hex hF hP0 ls hl
  have hl : lv_has ls 4 [(0, .ref (ad 0)), (1, .int (x)), (2, .ref (oo))] := hl
  have hR : zO D cI cZ cJ ad oo B s s.heap [] S g := zO_of hP0
  refine lv_aload_n hx hb dL_events_0 rfl (lv_at hl 2 rfl) ?_
  refine lv_iconst (v := (nI 0)) hx hb dL_events_1 (by decide) ?_
  refine lv_aload_n hx hb dL_events_2 rfl (lv_at hl 0 rfl) ?_
  refine lv_iload_n hx hb dL_events_3 rfl (lv_at hl 1 rfl) ?_
  refine z_oV_x (As := [.int (x)]) (rest := [.int (nI 0), .ref oo]) ⟨hx, hb, hml, hown, hts⟩ hF hoo hR (c_X4_events_e1 hG hfl S x hO hxb) (cwV 1 hts gL_events_X4_events rfl rfl rfl (by decide +kernel) ⟨Nat.le_of_ble_eq_true rfl, Nat.le_of_ble_eq_true rfl⟩) rfl hl rfl (Nat.le_of_ble_eq_true rfl) (by decide) dL_events_4 (fun E ce q9 H locs hp hR h1 h2 h3 => ?_)
  subst hp
  refine vx_catch (own := RL) (name := zIO) hown [] ⟨0, 9, 12, 13⟩ [] (by rw [hex]; rfl) (fun _ h => absurd h List.not_mem_nil) (by decide) (by decide) (hts (.classLink RL 13 zIO) (by decide +kernel)) (va_Nw.use rfl (hF.2.2.2.1 _ (by decide +kernel))) h1 h2 h3 ?_
  refine lv_astore_n (lv' := [(3, .ref (q9)), (0, .ref (ad 0)), (1, .int (x)), (2, .ref (oo))]) hx hb dL_events_12 rfl hl (by decide) rfl (fun ls hl => ?_)
  refine lv_iconst (v := (nI 1)) hx hb dL_events_13 (by decide) ?_
  exact z_o_iret hx hb hr hlk hF hR dL_events_14 ⟨rfl, rfl⟩
set_option maxHeartbeats 4000000 in
set_option maxRecDepth 100000 in
theorem o_events_ok {l : Launch} {D : va_G} {cI cZ cJ : ClassId} {ad : Nat → Nat} {B : Nat → Prop} {oo : Nat} (hG : ∀ S : zS, va_D B (wX cI cZ ad S)) (hoo : ¬ B oo) (hfl : l.stackTraces = false) (S : zS) (g : Nat → Int64) (p : Nat) (hO : zOK S) (hp : p < 4) : zMW l yL_events wsL_events ({ frames := 8, cells := 1, slots := 6, locals := 123 } : Room) [.ref (ad 0), .int (nI (p)), .ref (oo)] D (zT3 cI cZ cJ) (zBo B oo) (wO cI cZ cJ ad oo) (S, g) (fun (r : Int32) (u : zS × (Nat → Int64)) => r = nI 0 ∧ u.1 = S ∧ (u.2 0 = ((nI (zn S 0 p))).toInt64)) := by
  refine zMW_of (cc := cL_events) (maxL := 4) (ret := (some .int)) (hh := [(0, 9, 12, 13)]) (by decide) rfl (Nat.le_of_ble_eq_true rfl) ?_
  intro pg en s mm below meth cd hx hb hr hml hown hts hlk hex hF hP0 ls hl
  have hl : lv_has ls 4 [(0, .ref (ad 0)), (1, .int (nI (p))), (2, .ref (oo))] := hl
  have hR : zO D cI cZ cJ ad oo B s s.heap [] S g := zO_of hP0
  refine lv_aload_n hx hb dL_events_0 rfl (lv_at hl 2 rfl) ?_
  refine lv_iconst (v := (nI 0)) hx hb dL_events_1 (by decide) ?_
  refine lv_aload_n hx hb dL_events_2 rfl (lv_at hl 0 rfl) ?_
  refine lv_iload_n hx hb dL_events_3 rfl (lv_at hl 1 rfl) ?_
  refine z_oV_i (As := [.int (nI (p))]) (rest := [.int (nI 0), .ref oo]) ⟨hx, hb, hml, hown, hts⟩ hF hoo hR (c_X4_events_ok hG S p hO hp) (cwV 1 hts gL_events_X4_events rfl rfl rfl (by decide +kernel) ⟨Nat.le_of_ble_eq_true rfl, Nat.le_of_ble_eq_true rfl⟩) rfl hl rfl (Nat.le_of_ble_eq_true rfl) (by decide) dL_events_4 (fun r S1 H locs hp hR => ?_)
  obtain ⟨hr1, hs⟩ := hp
  subst r
  subst S1
  refine lv_i2l (v := ((nI (zn S 0 p))).toInt64) hx hb dL_events_7 rfl ?_
  refine z_o_last hx hb hF hR hG hoo dL_events_8 (fun H locs g1 hg hR => ?_)
  refine lv_goto (tgt := 15) hx hb dL_events_9 (by decide) ?_
  refine lv_iconst (v := (nI 0)) hx hb dL_events_15 (by decide) ?_
  refine W.widen (k := 1) (n := 6) (by decide) (by decide) ?_
  exact z_o_iret hx hb hr hlk hF hR dL_events_16 ⟨rfl, rfl, hg⟩
set_option maxHeartbeats 4000000 in
set_option maxRecDepth 100000 in
theorem o_offset_e1 {l : Launch} {D : va_G} {cI cZ cJ : ClassId} {ad : Nat → Nat} {B : Nat → Prop} {oo : Nat} (hG : ∀ S : zS, va_D B (wX cI cZ ad S)) (hoo : ¬ B oo) (hfl : l.stackTraces = false) (S : zS) (g : Nat → Int64) (x : Int32) (hO : zOK S) (hxb : zbad x 4) : zMW l yL_offset wsL_offset ({ frames := 8, cells := 1, slots := 6, locals := 123 } : Room) [.ref (ad 0), .int (x), .ref (oo)] D (zT3 cI cZ cJ) (zBo B oo) (wO cI cZ cJ ad oo) (S, g) (fun (r : Int32) (u : zS × (Nat → Int64)) => r = nI 1 ∧ u.1 = S) := by
  refine zMW_of (cc := cL_offset) (maxL := 4) (ret := (some .int)) (hh := [(0, 9, 12, 13)]) (by decide) rfl (Nat.le_of_ble_eq_true rfl) ?_
  intro pg en s mm below meth cd hx hb hr hml hown hts hlk hex hF hP0 ls hl
  have hl : lv_has ls 4 [(0, .ref (ad 0)), (1, .int (x)), (2, .ref (oo))] := hl
  have hR : zO D cI cZ cJ ad oo B s s.heap [] S g := zO_of hP0
  refine lv_aload_n hx hb dL_offset_0 rfl (lv_at hl 2 rfl) ?_
  refine lv_iconst (v := (nI 0)) hx hb dL_offset_1 (by decide) ?_
  refine lv_aload_n hx hb dL_offset_2 rfl (lv_at hl 0 rfl) ?_
  refine lv_iload_n hx hb dL_offset_3 rfl (lv_at hl 1 rfl) ?_
  refine z_oV_x (As := [.int (x)]) (rest := [.int (nI 0), .ref oo]) ⟨hx, hb, hml, hown, hts⟩ hF hoo hR (c_X4_offset_e1 hG hfl S x hO hxb) (cwV 1 hts gL_offset_X4_offset rfl rfl rfl (by decide +kernel) ⟨Nat.le_of_ble_eq_true rfl, Nat.le_of_ble_eq_true rfl⟩) rfl hl rfl (Nat.le_of_ble_eq_true rfl) (by decide) dL_offset_4 (fun E ce q9 H locs hp hR h1 h2 h3 => ?_)
  subst hp
  refine vx_catch (own := RL) (name := zIO) hown [] ⟨0, 9, 12, 13⟩ [] (by rw [hex]; rfl) (fun _ h => absurd h List.not_mem_nil) (by decide) (by decide) (hts (.classLink RL 13 zIO) (by decide +kernel)) (va_Nw.use rfl (hF.2.2.2.1 _ (by decide +kernel))) h1 h2 h3 ?_
  refine lv_astore_n (lv' := [(3, .ref (q9)), (0, .ref (ad 0)), (1, .int (x)), (2, .ref (oo))]) hx hb dL_offset_12 rfl hl (by decide) rfl (fun ls hl => ?_)
  refine lv_iconst (v := (nI 1)) hx hb dL_offset_13 (by decide) ?_
  exact z_o_iret hx hb hr hlk hF hR dL_offset_14 ⟨rfl, rfl⟩
set_option maxHeartbeats 4000000 in
set_option maxRecDepth 100000 in
theorem o_offset_ok {l : Launch} {D : va_G} {cI cZ cJ : ClassId} {ad : Nat → Nat} {B : Nat → Prop} {oo : Nat} (hG : ∀ S : zS, va_D B (wX cI cZ ad S)) (hoo : ¬ B oo) (hfl : l.stackTraces = false) (S : zS) (g : Nat → Int64) (p : Nat) (hO : zOK S) (hp : p < 4) : zMW l yL_offset wsL_offset ({ frames := 8, cells := 1, slots := 6, locals := 123 } : Room) [.ref (ad 0), .int (nI (p)), .ref (oo)] D (zT3 cI cZ cJ) (zBo B oo) (wO cI cZ cJ ad oo) (S, g) (fun (r : Int32) (u : zS × (Nat → Int64)) => r = nI 0 ∧ u.1 = S ∧ (u.2 0 = ((nI (zn S 2 p))).toInt64)) := by
  refine zMW_of (cc := cL_offset) (maxL := 4) (ret := (some .int)) (hh := [(0, 9, 12, 13)]) (by decide) rfl (Nat.le_of_ble_eq_true rfl) ?_
  intro pg en s mm below meth cd hx hb hr hml hown hts hlk hex hF hP0 ls hl
  have hl : lv_has ls 4 [(0, .ref (ad 0)), (1, .int (nI (p))), (2, .ref (oo))] := hl
  have hR : zO D cI cZ cJ ad oo B s s.heap [] S g := zO_of hP0
  refine lv_aload_n hx hb dL_offset_0 rfl (lv_at hl 2 rfl) ?_
  refine lv_iconst (v := (nI 0)) hx hb dL_offset_1 (by decide) ?_
  refine lv_aload_n hx hb dL_offset_2 rfl (lv_at hl 0 rfl) ?_
  refine lv_iload_n hx hb dL_offset_3 rfl (lv_at hl 1 rfl) ?_
  refine z_oV_i (As := [.int (nI (p))]) (rest := [.int (nI 0), .ref oo]) ⟨hx, hb, hml, hown, hts⟩ hF hoo hR (c_X4_offset_ok hG S p hO hp) (cwV 1 hts gL_offset_X4_offset rfl rfl rfl (by decide +kernel) ⟨Nat.le_of_ble_eq_true rfl, Nat.le_of_ble_eq_true rfl⟩) rfl hl rfl (Nat.le_of_ble_eq_true rfl) (by decide) dL_offset_4 (fun r S1 H locs hp hR => ?_)
  obtain ⟨hr1, hs⟩ := hp
  subst r
  subst S1
  refine lv_i2l (v := ((nI (zn S 2 p))).toInt64) hx hb dL_offset_7 rfl ?_
  refine z_o_last hx hb hF hR hG hoo dL_offset_8 (fun H locs g1 hg hR => ?_)
  refine lv_goto (tgt := 15) hx hb dL_offset_9 (by decide) ?_
  refine lv_iconst (v := (nI 0)) hx hb dL_offset_15 (by decide) ?_
  refine W.widen (k := 1) (n := 6) (by decide) (by decide) ?_
  exact z_o_iret hx hb hr hlk hF hR dL_offset_16 ⟨rfl, rfl, hg⟩
set_option maxHeartbeats 4000000 in
set_option maxRecDepth 100000 in
theorem o_keptOffset_e1 {l : Launch} {D : va_G} {cI cZ cJ : ClassId} {ad : Nat → Nat} {B : Nat → Prop} {oo : Nat} (hG : ∀ S : zS, va_D B (wX cI cZ ad S)) (hoo : ¬ B oo) (hfl : l.stackTraces = false) (S : zS) (g : Nat → Int64) (x : Int32) (hO : zOK S) (hxb : zbad x 4) : zMW l yL_keptOffset wsL_keptOffset ({ frames := 8, cells := 1, slots := 6, locals := 123 } : Room) [.ref (ad 0), .int (x), .ref (oo)] D (zT3 cI cZ cJ) (zBo B oo) (wO cI cZ cJ ad oo) (S, g) (fun (r : Int32) (u : zS × (Nat → Int64)) => r = nI 1 ∧ u.1 = S) := by
  refine zMW_of (cc := cL_keptOffset) (maxL := 4) (ret := (some .int)) (hh := [(0, 9, 12, 13)]) (by decide) rfl (Nat.le_of_ble_eq_true rfl) ?_
  intro pg en s mm below meth cd hx hb hr hml hown hts hlk hex hF hP0 ls hl
  have hl : lv_has ls 4 [(0, .ref (ad 0)), (1, .int (x)), (2, .ref (oo))] := hl
  have hR : zO D cI cZ cJ ad oo B s s.heap [] S g := zO_of hP0
  refine lv_aload_n hx hb dL_keptOffset_0 rfl (lv_at hl 2 rfl) ?_
  refine lv_iconst (v := (nI 0)) hx hb dL_keptOffset_1 (by decide) ?_
  refine lv_aload_n hx hb dL_keptOffset_2 rfl (lv_at hl 0 rfl) ?_
  refine lv_iload_n hx hb dL_keptOffset_3 rfl (lv_at hl 1 rfl) ?_
  refine z_oV_x (As := [.int (x)]) (rest := [.int (nI 0), .ref oo]) ⟨hx, hb, hml, hown, hts⟩ hF hoo hR (c_X4_keptOffset_e1 hG hfl S x hO hxb) (cwV 1 hts gL_keptOffset_X4_keptOffset rfl rfl rfl (by decide +kernel) ⟨Nat.le_of_ble_eq_true rfl, Nat.le_of_ble_eq_true rfl⟩) rfl hl rfl (Nat.le_of_ble_eq_true rfl) (by decide) dL_keptOffset_4 (fun E ce q9 H locs hp hR h1 h2 h3 => ?_)
  subst hp
  refine vx_catch (own := RL) (name := zIO) hown [] ⟨0, 9, 12, 13⟩ [] (by rw [hex]; rfl) (fun _ h => absurd h List.not_mem_nil) (by decide) (by decide) (hts (.classLink RL 13 zIO) (by decide +kernel)) (va_Nw.use rfl (hF.2.2.2.1 _ (by decide +kernel))) h1 h2 h3 ?_
  refine lv_astore_n (lv' := [(3, .ref (q9)), (0, .ref (ad 0)), (1, .int (x)), (2, .ref (oo))]) hx hb dL_keptOffset_12 rfl hl (by decide) rfl (fun ls hl => ?_)
  refine lv_iconst (v := (nI 1)) hx hb dL_keptOffset_13 (by decide) ?_
  exact z_o_iret hx hb hr hlk hF hR dL_keptOffset_14 ⟨rfl, rfl⟩
set_option maxHeartbeats 4000000 in
set_option maxRecDepth 100000 in
theorem o_keptOffset_ok {l : Launch} {D : va_G} {cI cZ cJ : ClassId} {ad : Nat → Nat} {B : Nat → Prop} {oo : Nat} (hG : ∀ S : zS, va_D B (wX cI cZ ad S)) (hoo : ¬ B oo) (hfl : l.stackTraces = false) (S : zS) (g : Nat → Int64) (p : Nat) (hO : zOK S) (hp : p < 4) : zMW l yL_keptOffset wsL_keptOffset ({ frames := 8, cells := 1, slots := 6, locals := 123 } : Room) [.ref (ad 0), .int (nI (p)), .ref (oo)] D (zT3 cI cZ cJ) (zBo B oo) (wO cI cZ cJ ad oo) (S, g) (fun (r : Int32) (u : zS × (Nat → Int64)) => r = nI 0 ∧ u.1 = S ∧ (u.2 0 = ((nI (zn S 3 p))).toInt64)) := by
  refine zMW_of (cc := cL_keptOffset) (maxL := 4) (ret := (some .int)) (hh := [(0, 9, 12, 13)]) (by decide) rfl (Nat.le_of_ble_eq_true rfl) ?_
  intro pg en s mm below meth cd hx hb hr hml hown hts hlk hex hF hP0 ls hl
  have hl : lv_has ls 4 [(0, .ref (ad 0)), (1, .int (nI (p))), (2, .ref (oo))] := hl
  have hR : zO D cI cZ cJ ad oo B s s.heap [] S g := zO_of hP0
  refine lv_aload_n hx hb dL_keptOffset_0 rfl (lv_at hl 2 rfl) ?_
  refine lv_iconst (v := (nI 0)) hx hb dL_keptOffset_1 (by decide) ?_
  refine lv_aload_n hx hb dL_keptOffset_2 rfl (lv_at hl 0 rfl) ?_
  refine lv_iload_n hx hb dL_keptOffset_3 rfl (lv_at hl 1 rfl) ?_
  refine z_oV_i (As := [.int (nI (p))]) (rest := [.int (nI 0), .ref oo]) ⟨hx, hb, hml, hown, hts⟩ hF hoo hR (c_X4_keptOffset_ok hG S p hO hp) (cwV 1 hts gL_keptOffset_X4_keptOffset rfl rfl rfl (by decide +kernel) ⟨Nat.le_of_ble_eq_true rfl, Nat.le_of_ble_eq_true rfl⟩) rfl hl rfl (Nat.le_of_ble_eq_true rfl) (by decide) dL_keptOffset_4 (fun r S1 H locs hp hR => ?_)
  obtain ⟨hr1, hs⟩ := hp
  subst r
  subst S1
  refine lv_i2l (v := ((nI (zn S 3 p))).toInt64) hx hb dL_keptOffset_7 rfl ?_
  refine z_o_last hx hb hF hR hG hoo dL_keptOffset_8 (fun H locs g1 hg hR => ?_)
  refine lv_goto (tgt := 15) hx hb dL_keptOffset_9 (by decide) ?_
  refine lv_iconst (v := (nI 0)) hx hb dL_keptOffset_15 (by decide) ?_
  refine W.widen (k := 1) (n := 6) (by decide) (by decide) ?_
  exact z_o_iret hx hb hr hlk hF hR dL_keptOffset_16 ⟨rfl, rfl, hg⟩
set_option maxHeartbeats 4000000 in
set_option maxRecDepth 100000 in
theorem o_eventAt_e1 {l : Launch} {D : va_G} {cI cZ cJ : ClassId} {ad : Nat → Nat} {B : Nat → Prop} {oo : Nat} (hG : ∀ S : zS, va_D B (wX cI cZ ad S)) (hoo : ¬ B oo) (hfl : l.stackTraces = false) (S : zS) (g : Nat → Int64) (x y : Int32) (hO : zOK S) (hxb : zbad x 4) : zMW l yL_eventAt wsL_eventAt ({ frames := 8, cells := 1, slots := 6, locals := 124 } : Room) [.ref (ad 0), .int (x), .int (y), .ref (oo)] D (zT3 cI cZ cJ) (zBo B oo) (wO cI cZ cJ ad oo) (S, g) (fun (r : Int32) (u : zS × (Nat → Int64)) => r = nI 1 ∧ u.1 = S) := by
  refine zMW_of (cc := cL_eventAt) (maxL := 5) (ret := (some .int)) (hh := [(0, 10, 13, 13)]) (by decide) rfl (Nat.le_of_ble_eq_true rfl) ?_
  intro pg en s mm below meth cd hx hb hr hml hown hts hlk hex hF hP0 ls hl
  have hl : lv_has ls 5 [(0, .ref (ad 0)), (1, .int (x)), (2, .int (y)), (3, .ref (oo))] := hl
  have hR : zO D cI cZ cJ ad oo B s s.heap [] S g := zO_of hP0
  refine lv_aload_n hx hb dL_eventAt_0 rfl (lv_at hl 3 rfl) ?_
  refine lv_iconst (v := (nI 0)) hx hb dL_eventAt_1 (by decide) ?_
  refine lv_aload_n hx hb dL_eventAt_2 rfl (lv_at hl 0 rfl) ?_
  refine lv_iload_n hx hb dL_eventAt_3 rfl (lv_at hl 1 rfl) ?_
  refine lv_iload_n hx hb dL_eventAt_4 rfl (lv_at hl 2 rfl) ?_
  refine z_oV_x (As := [.int (x), .int (y)]) (rest := [.int (nI 0), .ref oo]) ⟨hx, hb, hml, hown, hts⟩ hF hoo hR (c_X4_eventAt_e1 hG hfl S x y hO hxb) (cwV 2 hts gL_eventAt_X4_eventAt rfl rfl rfl (by decide +kernel) ⟨Nat.le_of_ble_eq_true rfl, Nat.le_of_ble_eq_true rfl⟩) rfl hl rfl (Nat.le_of_ble_eq_true rfl) (by decide) dL_eventAt_5 (fun E ce q9 H locs hp hR h1 h2 h3 => ?_)
  subst hp
  refine vx_catch (own := RL) (name := zIO) hown [] ⟨0, 10, 13, 13⟩ [] (by rw [hex]; rfl) (fun _ h => absurd h List.not_mem_nil) (by decide) (by decide) (hts (.classLink RL 13 zIO) (by decide +kernel)) (va_Nw.use rfl (hF.2.2.2.1 _ (by decide +kernel))) h1 h2 h3 ?_
  refine lv_astore (lv' := [(4, .ref (q9)), (0, .ref (ad 0)), (1, .int (x)), (2, .int (y)), (3, .ref (oo))]) hx hb dL_eventAt_13 hl (by decide) rfl (fun ls hl => ?_)
  refine lv_iconst (v := (nI 1)) hx hb dL_eventAt_15 (by decide) ?_
  exact z_o_iret hx hb hr hlk hF hR dL_eventAt_16 ⟨rfl, rfl⟩
set_option maxHeartbeats 4000000 in
set_option maxRecDepth 100000 in
theorem o_eventAt_e2 {l : Launch} {D : va_G} {cI cZ cJ : ClassId} {ad : Nat → Nat} {B : Nat → Prop} {oo : Nat} (hG : ∀ S : zS, va_D B (wX cI cZ ad S)) (hoo : ¬ B oo) (hfl : l.stackTraces = false) (S : zS) (g : Nat → Int64) (p : Nat) (y : Int32) (hO : zOK S) (hp : p < 4) (hxb : zbad y (zn S 0 p)) : zMW l yL_eventAt wsL_eventAt ({ frames := 8, cells := 1, slots := 6, locals := 124 } : Room) [.ref (ad 0), .int (nI (p)), .int (y), .ref (oo)] D (zT3 cI cZ cJ) (zBo B oo) (wO cI cZ cJ ad oo) (S, g) (fun (r : Int32) (u : zS × (Nat → Int64)) => r = nI 1 ∧ u.1 = S) := by
  refine zMW_of (cc := cL_eventAt) (maxL := 5) (ret := (some .int)) (hh := [(0, 10, 13, 13)]) (by decide) rfl (Nat.le_of_ble_eq_true rfl) ?_
  intro pg en s mm below meth cd hx hb hr hml hown hts hlk hex hF hP0 ls hl
  have hl : lv_has ls 5 [(0, .ref (ad 0)), (1, .int (nI (p))), (2, .int (y)), (3, .ref (oo))] := hl
  have hR : zO D cI cZ cJ ad oo B s s.heap [] S g := zO_of hP0
  refine lv_aload_n hx hb dL_eventAt_0 rfl (lv_at hl 3 rfl) ?_
  refine lv_iconst (v := (nI 0)) hx hb dL_eventAt_1 (by decide) ?_
  refine lv_aload_n hx hb dL_eventAt_2 rfl (lv_at hl 0 rfl) ?_
  refine lv_iload_n hx hb dL_eventAt_3 rfl (lv_at hl 1 rfl) ?_
  refine lv_iload_n hx hb dL_eventAt_4 rfl (lv_at hl 2 rfl) ?_
  refine z_oV_x (As := [.int (nI (p)), .int (y)]) (rest := [.int (nI 0), .ref oo]) ⟨hx, hb, hml, hown, hts⟩ hF hoo hR (c_X4_eventAt_e2 hG hfl S p y hO hp hxb) (cwV 2 hts gL_eventAt_X4_eventAt rfl rfl rfl (by decide +kernel) ⟨Nat.le_of_ble_eq_true rfl, Nat.le_of_ble_eq_true rfl⟩) rfl hl rfl (Nat.le_of_ble_eq_true rfl) (by decide) dL_eventAt_5 (fun E ce q9 H locs hp hR h1 h2 h3 => ?_)
  subst hp
  refine vx_catch (own := RL) (name := zIO) hown [] ⟨0, 10, 13, 13⟩ [] (by rw [hex]; rfl) (fun _ h => absurd h List.not_mem_nil) (by decide) (by decide) (hts (.classLink RL 13 zIO) (by decide +kernel)) (va_Nw.use rfl (hF.2.2.2.1 _ (by decide +kernel))) h1 h2 h3 ?_
  refine lv_astore (lv' := [(4, .ref (q9)), (0, .ref (ad 0)), (1, .int (nI (p))), (2, .int (y)), (3, .ref (oo))]) hx hb dL_eventAt_13 hl (by decide) rfl (fun ls hl => ?_)
  refine lv_iconst (v := (nI 1)) hx hb dL_eventAt_15 (by decide) ?_
  exact z_o_iret hx hb hr hlk hF hR dL_eventAt_16 ⟨rfl, rfl⟩
set_option maxHeartbeats 4000000 in
set_option maxRecDepth 100000 in
theorem o_eventAt_ok {l : Launch} {D : va_G} {cI cZ cJ : ClassId} {ad : Nat → Nat} {B : Nat → Prop} {oo : Nat} (hG : ∀ S : zS, va_D B (wX cI cZ ad S)) (hoo : ¬ B oo) (hfl : l.stackTraces = false) (S : zS) (g : Nat → Int64) (p o : Nat) (hO : zOK S) (hp : p < 4) (ho : o < zn S 0 p) : zMW l yL_eventAt wsL_eventAt ({ frames := 8, cells := 1, slots := 6, locals := 124 } : Room) [.ref (ad 0), .int (nI (p)), .int (nI (o)), .ref (oo)] D (zT3 cI cZ cJ) (zBo B oo) (wO cI cZ cJ ad oo) (S, g) (fun (r : Int32) (u : zS × (Nat → Int64)) => r = nI 0 ∧ u.1 = S ∧ (u.2 0 = ((nI (zn S 1 (60 * p + o)))).toInt64)) := by
  refine zMW_of (cc := cL_eventAt) (maxL := 5) (ret := (some .int)) (hh := [(0, 10, 13, 13)]) (by decide) rfl (Nat.le_of_ble_eq_true rfl) ?_
  intro pg en s mm below meth cd hx hb hr hml hown hts hlk hex hF hP0 ls hl
  have hl : lv_has ls 5 [(0, .ref (ad 0)), (1, .int (nI (p))), (2, .int (nI (o))), (3, .ref (oo))] := hl
  have hR : zO D cI cZ cJ ad oo B s s.heap [] S g := zO_of hP0
  refine lv_aload_n hx hb dL_eventAt_0 rfl (lv_at hl 3 rfl) ?_
  refine lv_iconst (v := (nI 0)) hx hb dL_eventAt_1 (by decide) ?_
  refine lv_aload_n hx hb dL_eventAt_2 rfl (lv_at hl 0 rfl) ?_
  refine lv_iload_n hx hb dL_eventAt_3 rfl (lv_at hl 1 rfl) ?_
  refine lv_iload_n hx hb dL_eventAt_4 rfl (lv_at hl 2 rfl) ?_
  refine z_oV_i (As := [.int (nI (p)), .int (nI (o))]) (rest := [.int (nI 0), .ref oo]) ⟨hx, hb, hml, hown, hts⟩ hF hoo hR (c_X4_eventAt_ok hG S p o hO hp ho) (cwV 2 hts gL_eventAt_X4_eventAt rfl rfl rfl (by decide +kernel) ⟨Nat.le_of_ble_eq_true rfl, Nat.le_of_ble_eq_true rfl⟩) rfl hl rfl (Nat.le_of_ble_eq_true rfl) (by decide) dL_eventAt_5 (fun r S1 H locs hp hR => ?_)
  obtain ⟨hr1, hs⟩ := hp
  subst r
  subst S1
  refine lv_i2l (v := ((nI (zn S 1 (60 * p + o)))).toInt64) hx hb dL_eventAt_8 rfl ?_
  refine z_o_last hx hb hF hR hG hoo dL_eventAt_9 (fun H locs g1 hg hR => ?_)
  refine lv_goto (tgt := 17) hx hb dL_eventAt_10 (by decide) ?_
  refine lv_iconst (v := (nI 0)) hx hb dL_eventAt_17 (by decide) ?_
  refine W.widen (k := 1) (n := 6) (by decide) (by decide) ?_
  exact z_o_iret hx hb hr hlk hF hR dL_eventAt_18 ⟨rfl, rfl, hg⟩
set_option maxHeartbeats 4000000 in
set_option maxRecDepth 100000 in
theorem o_queued_e1 {l : Launch} {D : va_G} {cI cZ cJ : ClassId} {ad : Nat → Nat} {B : Nat → Prop} {oo : Nat} (hG : ∀ S : zS, va_D B (wX cI cZ ad S)) (hoo : ¬ B oo) (hfl : l.stackTraces = false) (S : zS) (g : Nat → Int64) (x y : Int32) (hO : zOK S) (hxb : zbad x 4) : zMW l yL_queued wsL_queued ({ frames := 8, cells := 1, slots := 6, locals := 125 } : Room) [.ref (ad 0), .int (x), .int (y), .ref (oo)] D (zT3 cI cZ cJ) (zBo B oo) (wO cI cZ cJ ad oo) (S, g) (fun (r : Int32) (u : zS × (Nat → Int64)) => r = nI 1 ∧ u.1 = S) := by
  refine zMW_of (cc := cL_queued) (maxL := 5) (ret := (some .int)) (hh := [(0, 10, 13, 13)]) (by decide) rfl (Nat.le_of_ble_eq_true rfl) ?_
  intro pg en s mm below meth cd hx hb hr hml hown hts hlk hex hF hP0 ls hl
  have hl : lv_has ls 5 [(0, .ref (ad 0)), (1, .int (x)), (2, .int (y)), (3, .ref (oo))] := hl
  have hR : zO D cI cZ cJ ad oo B s s.heap [] S g := zO_of hP0
  refine lv_aload_n hx hb dL_queued_0 rfl (lv_at hl 3 rfl) ?_
  refine lv_iconst (v := (nI 0)) hx hb dL_queued_1 (by decide) ?_
  refine lv_aload_n hx hb dL_queued_2 rfl (lv_at hl 0 rfl) ?_
  refine lv_iload_n hx hb dL_queued_3 rfl (lv_at hl 1 rfl) ?_
  refine lv_iload_n hx hb dL_queued_4 rfl (lv_at hl 2 rfl) ?_
  refine z_oV_x (As := [.int (x), .int (y)]) (rest := [.int (nI 0), .ref oo]) ⟨hx, hb, hml, hown, hts⟩ hF hoo hR (c_X4_queued_e1 hG hfl S x y hO hxb) (cwV 2 hts gL_queued_X4_queued rfl rfl rfl (by decide +kernel) ⟨Nat.le_of_ble_eq_true rfl, Nat.le_of_ble_eq_true rfl⟩) rfl hl rfl (Nat.le_of_ble_eq_true rfl) (by decide) dL_queued_5 (fun E ce q9 H locs hp hR h1 h2 h3 => ?_)
  subst hp
  refine vx_catch (own := RL) (name := zIO) hown [] ⟨0, 10, 13, 13⟩ [] (by rw [hex]; rfl) (fun _ h => absurd h List.not_mem_nil) (by decide) (by decide) (hts (.classLink RL 13 zIO) (by decide +kernel)) (va_Nw.use rfl (hF.2.2.2.1 _ (by decide +kernel))) h1 h2 h3 ?_
  refine lv_astore (lv' := [(4, .ref (q9)), (0, .ref (ad 0)), (1, .int (x)), (2, .int (y)), (3, .ref (oo))]) hx hb dL_queued_13 hl (by decide) rfl (fun ls hl => ?_)
  refine lv_iconst (v := (nI 1)) hx hb dL_queued_15 (by decide) ?_
  exact z_o_iret hx hb hr hlk hF hR dL_queued_16 ⟨rfl, rfl⟩
set_option maxHeartbeats 4000000 in
set_option maxRecDepth 100000 in
theorem o_queued_e2 {l : Launch} {D : va_G} {cI cZ cJ : ClassId} {ad : Nat → Nat} {B : Nat → Prop} {oo : Nat} (hG : ∀ S : zS, va_D B (wX cI cZ ad S)) (hoo : ¬ B oo) (hfl : l.stackTraces = false) (S : zS) (g : Nat → Int64) (p : Nat) (y : Int32) (hO : zOK S) (hp : p < 4) (hxb : zbad y (zn S 22 0)) : zMW l yL_queued wsL_queued ({ frames := 8, cells := 1, slots := 6, locals := 125 } : Room) [.ref (ad 0), .int (nI (p)), .int (y), .ref (oo)] D (zT3 cI cZ cJ) (zBo B oo) (wO cI cZ cJ ad oo) (S, g) (fun (r : Int32) (u : zS × (Nat → Int64)) => r = nI 1 ∧ u.1 = S) := by
  refine zMW_of (cc := cL_queued) (maxL := 5) (ret := (some .int)) (hh := [(0, 10, 13, 13)]) (by decide) rfl (Nat.le_of_ble_eq_true rfl) ?_
  intro pg en s mm below meth cd hx hb hr hml hown hts hlk hex hF hP0 ls hl
  have hl : lv_has ls 5 [(0, .ref (ad 0)), (1, .int (nI (p))), (2, .int (y)), (3, .ref (oo))] := hl
  have hR : zO D cI cZ cJ ad oo B s s.heap [] S g := zO_of hP0
  refine lv_aload_n hx hb dL_queued_0 rfl (lv_at hl 3 rfl) ?_
  refine lv_iconst (v := (nI 0)) hx hb dL_queued_1 (by decide) ?_
  refine lv_aload_n hx hb dL_queued_2 rfl (lv_at hl 0 rfl) ?_
  refine lv_iload_n hx hb dL_queued_3 rfl (lv_at hl 1 rfl) ?_
  refine lv_iload_n hx hb dL_queued_4 rfl (lv_at hl 2 rfl) ?_
  refine z_oV_x (As := [.int (nI (p)), .int (y)]) (rest := [.int (nI 0), .ref oo]) ⟨hx, hb, hml, hown, hts⟩ hF hoo hR (c_X4_queued_e2 hG hfl S p y hO hp hxb) (cwV 2 hts gL_queued_X4_queued rfl rfl rfl (by decide +kernel) ⟨Nat.le_of_ble_eq_true rfl, Nat.le_of_ble_eq_true rfl⟩) rfl hl rfl (Nat.le_of_ble_eq_true rfl) (by decide) dL_queued_5 (fun E ce q9 H locs hp hR h1 h2 h3 => ?_)
  subst hp
  refine vx_catch (own := RL) (name := zIO) hown [] ⟨0, 10, 13, 13⟩ [] (by rw [hex]; rfl) (fun _ h => absurd h List.not_mem_nil) (by decide) (by decide) (hts (.classLink RL 13 zIO) (by decide +kernel)) (va_Nw.use rfl (hF.2.2.2.1 _ (by decide +kernel))) h1 h2 h3 ?_
  refine lv_astore (lv' := [(4, .ref (q9)), (0, .ref (ad 0)), (1, .int (nI (p))), (2, .int (y)), (3, .ref (oo))]) hx hb dL_queued_13 hl (by decide) rfl (fun ls hl => ?_)
  refine lv_iconst (v := (nI 1)) hx hb dL_queued_15 (by decide) ?_
  exact z_o_iret hx hb hr hlk hF hR dL_queued_16 ⟨rfl, rfl⟩
set_option maxHeartbeats 4000000 in
set_option maxRecDepth 100000 in
theorem o_queued_ok {l : Launch} {D : va_G} {cI cZ cJ : ClassId} {ad : Nat → Nat} {B : Nat → Prop} {oo : Nat} (hG : ∀ S : zS, va_D B (wX cI cZ ad S)) (hoo : ¬ B oo) (hfl : l.stackTraces = false) (S : zS) (g : Nat → Int64) (p w : Nat) (hO : zOK S) (hp : p < 4) (hw : w < zn S 22 0) : zMW l yL_queued wsL_queued ({ frames := 8, cells := 1, slots := 6, locals := 125 } : Room) [.ref (ad 0), .int (nI (p)), .int (nI (w)), .ref (oo)] D (zT3 cI cZ cJ) (zBo B oo) (wO cI cZ cJ ad oo) (S, g) (fun (r : Int32) (u : zS × (Nat → Int64)) => r = nI 0 ∧ u.1 = S ∧ (u.2 0 = ((nI (zn S 7 (4 * p + w)))).toInt64)) := by
  refine zMW_of (cc := cL_queued) (maxL := 5) (ret := (some .int)) (hh := [(0, 10, 13, 13)]) (by decide) rfl (Nat.le_of_ble_eq_true rfl) ?_
  intro pg en s mm below meth cd hx hb hr hml hown hts hlk hex hF hP0 ls hl
  have hl : lv_has ls 5 [(0, .ref (ad 0)), (1, .int (nI (p))), (2, .int (nI (w))), (3, .ref (oo))] := hl
  have hR : zO D cI cZ cJ ad oo B s s.heap [] S g := zO_of hP0
  refine lv_aload_n hx hb dL_queued_0 rfl (lv_at hl 3 rfl) ?_
  refine lv_iconst (v := (nI 0)) hx hb dL_queued_1 (by decide) ?_
  refine lv_aload_n hx hb dL_queued_2 rfl (lv_at hl 0 rfl) ?_
  refine lv_iload_n hx hb dL_queued_3 rfl (lv_at hl 1 rfl) ?_
  refine lv_iload_n hx hb dL_queued_4 rfl (lv_at hl 2 rfl) ?_
  refine z_oV_i (As := [.int (nI (p)), .int (nI (w))]) (rest := [.int (nI 0), .ref oo]) ⟨hx, hb, hml, hown, hts⟩ hF hoo hR (c_X4_queued_ok hG S p w hO hp hw) (cwV 2 hts gL_queued_X4_queued rfl rfl rfl (by decide +kernel) ⟨Nat.le_of_ble_eq_true rfl, Nat.le_of_ble_eq_true rfl⟩) rfl hl rfl (Nat.le_of_ble_eq_true rfl) (by decide) dL_queued_5 (fun r S1 H locs hp hR => ?_)
  obtain ⟨hr1, hs⟩ := hp
  subst r
  subst S1
  refine lv_i2l (v := ((nI (zn S 7 (4 * p + w)))).toInt64) hx hb dL_queued_8 rfl ?_
  refine z_o_last hx hb hF hR hG hoo dL_queued_9 (fun H locs g1 hg hR => ?_)
  refine lv_goto (tgt := 17) hx hb dL_queued_10 (by decide) ?_
  refine lv_iconst (v := (nI 0)) hx hb dL_queued_17 (by decide) ?_
  refine W.widen (k := 1) (n := 6) (by decide) (by decide) ?_
  exact z_o_iret hx hb hr hlk hF hR dL_queued_18 ⟨rfl, rfl, hg⟩
set_option maxHeartbeats 4000000 in
set_option maxRecDepth 100000 in
theorem o_isBlocked_e1 {l : Launch} {D : va_G} {cI cZ cJ : ClassId} {ad : Nat → Nat} {B : Nat → Prop} {oo : Nat} (hG : ∀ S : zS, va_D B (wX cI cZ ad S)) (hoo : ¬ B oo) (hfl : l.stackTraces = false) (S : zS) (g : Nat → Int64) (x y : Int32) (hO : zOK S) (hxb : zbad x 4) : zMW l yL_isBlocked wsL_isBlocked ({ frames := 8, cells := 1, slots := 6, locals := 125 } : Room) [.ref (ad 0), .int (x), .int (y), .ref (oo)] D (zT3 cI cZ cJ) (zBo B oo) (wO cI cZ cJ ad oo) (S, g) (fun (r : Int32) (u : zS × (Nat → Int64)) => r = nI 1 ∧ u.1 = S) := by
  refine zMW_of (cc := cL_isBlocked) (maxL := 5) (ret := (some .int)) (hh := [(0, 17, 20, 13)]) (by decide) rfl (Nat.le_of_ble_eq_true rfl) ?_
  intro pg en s mm below meth cd hx hb hr hml hown hts hlk hex hF hP0 ls hl
  have hl : lv_has ls 5 [(0, .ref (ad 0)), (1, .int (x)), (2, .int (y)), (3, .ref (oo))] := hl
  have hR : zO D cI cZ cJ ad oo B s s.heap [] S g := zO_of hP0
  refine lv_aload_n hx hb dL_isBlocked_0 rfl (lv_at hl 3 rfl) ?_
  refine lv_iconst (v := (nI 0)) hx hb dL_isBlocked_1 (by decide) ?_
  refine lv_aload_n hx hb dL_isBlocked_2 rfl (lv_at hl 0 rfl) ?_
  refine lv_iload_n hx hb dL_isBlocked_3 rfl (lv_at hl 1 rfl) ?_
  refine lv_iload_n hx hb dL_isBlocked_4 rfl (lv_at hl 2 rfl) ?_
  refine z_oV_x (As := [.int (x), .int (y)]) (rest := [.int (nI 0), .ref oo]) ⟨hx, hb, hml, hown, hts⟩ hF hoo hR (c_X4_isBlocked_e1 hG hfl S x y hO hxb) (cwV 2 hts gL_isBlocked_X4_isBlocked rfl rfl rfl (by decide +kernel) ⟨Nat.le_of_ble_eq_true rfl, Nat.le_of_ble_eq_true rfl⟩) rfl hl rfl (Nat.le_of_ble_eq_true rfl) (by decide) dL_isBlocked_5 (fun E ce q9 H locs hp hR h1 h2 h3 => ?_)
  subst hp
  refine vx_catch (own := RL) (name := zIO) hown [] ⟨0, 17, 20, 13⟩ [] (by rw [hex]; rfl) (fun _ h => absurd h List.not_mem_nil) (by decide) (by decide) (hts (.classLink RL 13 zIO) (by decide +kernel)) (va_Nw.use rfl (hF.2.2.2.1 _ (by decide +kernel))) h1 h2 h3 ?_
  refine lv_astore (lv' := [(4, .ref (q9)), (0, .ref (ad 0)), (1, .int (x)), (2, .int (y)), (3, .ref (oo))]) hx hb dL_isBlocked_20 hl (by decide) rfl (fun ls hl => ?_)
  refine lv_iconst (v := (nI 1)) hx hb dL_isBlocked_22 (by decide) ?_
  exact z_o_iret hx hb hr hlk hF hR dL_isBlocked_23 ⟨rfl, rfl⟩
set_option maxHeartbeats 4000000 in
set_option maxRecDepth 100000 in
theorem o_isBlocked_e2 {l : Launch} {D : va_G} {cI cZ cJ : ClassId} {ad : Nat → Nat} {B : Nat → Prop} {oo : Nat} (hG : ∀ S : zS, va_D B (wX cI cZ ad S)) (hoo : ¬ B oo) (hfl : l.stackTraces = false) (S : zS) (g : Nat → Int64) (p : Nat) (y : Int32) (hO : zOK S) (hp : p < 4) (hxb : zbad y (zn S 22 0)) : zMW l yL_isBlocked wsL_isBlocked ({ frames := 8, cells := 1, slots := 6, locals := 125 } : Room) [.ref (ad 0), .int (nI (p)), .int (y), .ref (oo)] D (zT3 cI cZ cJ) (zBo B oo) (wO cI cZ cJ ad oo) (S, g) (fun (r : Int32) (u : zS × (Nat → Int64)) => r = nI 1 ∧ u.1 = S) := by
  refine zMW_of (cc := cL_isBlocked) (maxL := 5) (ret := (some .int)) (hh := [(0, 17, 20, 13)]) (by decide) rfl (Nat.le_of_ble_eq_true rfl) ?_
  intro pg en s mm below meth cd hx hb hr hml hown hts hlk hex hF hP0 ls hl
  have hl : lv_has ls 5 [(0, .ref (ad 0)), (1, .int (nI (p))), (2, .int (y)), (3, .ref (oo))] := hl
  have hR : zO D cI cZ cJ ad oo B s s.heap [] S g := zO_of hP0
  refine lv_aload_n hx hb dL_isBlocked_0 rfl (lv_at hl 3 rfl) ?_
  refine lv_iconst (v := (nI 0)) hx hb dL_isBlocked_1 (by decide) ?_
  refine lv_aload_n hx hb dL_isBlocked_2 rfl (lv_at hl 0 rfl) ?_
  refine lv_iload_n hx hb dL_isBlocked_3 rfl (lv_at hl 1 rfl) ?_
  refine lv_iload_n hx hb dL_isBlocked_4 rfl (lv_at hl 2 rfl) ?_
  refine z_oV_x (As := [.int (nI (p)), .int (y)]) (rest := [.int (nI 0), .ref oo]) ⟨hx, hb, hml, hown, hts⟩ hF hoo hR (c_X4_isBlocked_e2 hG hfl S p y hO hp hxb) (cwV 2 hts gL_isBlocked_X4_isBlocked rfl rfl rfl (by decide +kernel) ⟨Nat.le_of_ble_eq_true rfl, Nat.le_of_ble_eq_true rfl⟩) rfl hl rfl (Nat.le_of_ble_eq_true rfl) (by decide) dL_isBlocked_5 (fun E ce q9 H locs hp hR h1 h2 h3 => ?_)
  subst hp
  refine vx_catch (own := RL) (name := zIO) hown [] ⟨0, 17, 20, 13⟩ [] (by rw [hex]; rfl) (fun _ h => absurd h List.not_mem_nil) (by decide) (by decide) (hts (.classLink RL 13 zIO) (by decide +kernel)) (va_Nw.use rfl (hF.2.2.2.1 _ (by decide +kernel))) h1 h2 h3 ?_
  refine lv_astore (lv' := [(4, .ref (q9)), (0, .ref (ad 0)), (1, .int (nI (p))), (2, .int (y)), (3, .ref (oo))]) hx hb dL_isBlocked_20 hl (by decide) rfl (fun ls hl => ?_)
  refine lv_iconst (v := (nI 1)) hx hb dL_isBlocked_22 (by decide) ?_
  exact z_o_iret hx hb hr hlk hF hR dL_isBlocked_23 ⟨rfl, rfl⟩
set_option maxHeartbeats 4000000 in
set_option maxRecDepth 100000 in
theorem o_isBlocked_ok {l : Launch} {D : va_G} {cI cZ cJ : ClassId} {ad : Nat → Nat} {B : Nat → Prop} {oo : Nat} (hG : ∀ S : zS, va_D B (wX cI cZ ad S)) (hoo : ¬ B oo) (hfl : l.stackTraces = false) (S : zS) (g : Nat → Int64) (p w : Nat) (hO : zOK S) (hp : p < 4) (hw : w < zn S 22 0) : zMW l yL_isBlocked wsL_isBlocked ({ frames := 8, cells := 1, slots := 6, locals := 125 } : Room) [.ref (ad 0), .int (nI (p)), .int (nI (w)), .ref (oo)] D (zT3 cI cZ cJ) (zBo B oo) (wO cI cZ cJ ad oo) (S, g) (fun (r : Int32) (u : zS × (Nat → Int64)) => r = nI 0 ∧ u.1 = S ∧ (((S 8 (4 * p + w) = nI 1) ∧ u.2 0 = 1) ∨ (¬ (S 8 (4 * p + w) = nI 1) ∧ u.2 0 = 0))) := by
  refine zMW_of (cc := cL_isBlocked) (maxL := 5) (ret := (some .int)) (hh := [(0, 17, 20, 13)]) (by decide) rfl (Nat.le_of_ble_eq_true rfl) ?_
  intro pg en s mm below meth cd hx hb hr hml hown hts hlk hex hF hP0 ls hl
  have hl : lv_has ls 5 [(0, .ref (ad 0)), (1, .int (nI (p))), (2, .int (nI (w))), (3, .ref (oo))] := hl
  have hR : zO D cI cZ cJ ad oo B s s.heap [] S g := zO_of hP0
  refine lv_aload_n hx hb dL_isBlocked_0 rfl (lv_at hl 3 rfl) ?_
  refine lv_iconst (v := (nI 0)) hx hb dL_isBlocked_1 (by decide) ?_
  refine lv_aload_n hx hb dL_isBlocked_2 rfl (lv_at hl 0 rfl) ?_
  refine lv_iload_n hx hb dL_isBlocked_3 rfl (lv_at hl 1 rfl) ?_
  refine lv_iload_n hx hb dL_isBlocked_4 rfl (lv_at hl 2 rfl) ?_
  refine z_oV_i (As := [.int (nI (p)), .int (nI (w))]) (rest := [.int (nI 0), .ref oo]) ⟨hx, hb, hml, hown, hts⟩ hF hoo hR (c_X4_isBlocked_ok hG S p w hO hp hw) (cwV 2 hts gL_isBlocked_X4_isBlocked rfl rfl rfl (by decide +kernel) ⟨Nat.le_of_ble_eq_true rfl, Nat.le_of_ble_eq_true rfl⟩) rfl hl rfl (Nat.le_of_ble_eq_true rfl) (by decide) dL_isBlocked_5 (fun r S1 H locs hp hR => ?_)
  obtain ⟨hp, hs⟩ := hp
  subst S1
  rcases hp with ⟨hq, hr1⟩ | ⟨hq, hr1⟩
  · subst r
    refine z_if_eq_n (tgt := 15) hx hb dL_isBlocked_8 (by decide) (by decide) (fun h => absurd h (by decide)) (fun _ => ?_)
    refine lv_lconst (v := 1) hx hb dL_isBlocked_11 (by decide) ?_
    refine lv_goto (tgt := 16) hx hb dL_isBlocked_12 (by decide) ?_
    refine z_o_last hx hb hF hR hG hoo dL_isBlocked_16 (fun H locs g1 hg hR => ?_)
    refine lv_goto (tgt := 24) hx hb dL_isBlocked_17 (by decide) ?_
    refine lv_iconst (v := (nI 0)) hx hb dL_isBlocked_24 (by decide) ?_
    refine W.widen (k := 1) (n := 6) (by decide) (by decide) ?_
    exact z_o_iret hx hb hr hlk hF hR dL_isBlocked_25 ⟨rfl, rfl, Or.inl ⟨hq, hg⟩⟩
  · subst r
    refine z_if_eq_n (tgt := 15) hx hb dL_isBlocked_8 (by decide) (by decide) (fun _ => ?_) (fun h => absurd rfl h)
    refine lv_lconst (v := 0) hx hb dL_isBlocked_15 (by decide) ?_
    refine z_o_last hx hb hF hR hG hoo dL_isBlocked_16 (fun H locs g1 hg hR => ?_)
    refine lv_goto (tgt := 24) hx hb dL_isBlocked_17 (by decide) ?_
    refine lv_iconst (v := (nI 0)) hx hb dL_isBlocked_24 (by decide) ?_
    refine W.widen (k := 1) (n := 6) (by decide) (by decide) ?_
    exact z_o_iret hx hb hr hlk hF hR dL_isBlocked_25 ⟨rfl, rfl, Or.inr ⟨hq, hg⟩⟩
set_option maxHeartbeats 4000000 in
set_option maxRecDepth 100000 in
theorem o_itemAt_e1 {l : Launch} {D : va_G} {cI cZ cJ : ClassId} {ad : Nat → Nat} {B : Nat → Prop} {oo : Nat} (hG : ∀ S : zS, va_D B (wX cI cZ ad S)) (hoo : ¬ B oo) (hfl : l.stackTraces = false) (S : zS) (g : Nat → Int64) (x y z : Int32) (hO : zOK S) (hxb : zbad x 4) : zMW l yL_itemAt wsL_itemAt ({ frames := 8, cells := 1, slots := 6, locals := 126 } : Room) [.ref (ad 0), .int (x), .int (y), .int (z), .ref (oo)] D (zT3 cI cZ cJ) (zBo B oo) (wO cI cZ cJ ad oo) (S, g) (fun (r : Int32) (u : zS × (Nat → Int64)) => r = nI 1 ∧ u.1 = S) := by
  refine zMW_of (cc := cL_itemAt) (maxL := 6) (ret := (some .int)) (hh := [(0, 12, 15, 13)]) (by decide) rfl (Nat.le_of_ble_eq_true rfl) ?_
  intro pg en s mm below meth cd hx hb hr hml hown hts hlk hex hF hP0 ls hl
  have hl : lv_has ls 6 [(0, .ref (ad 0)), (1, .int (x)), (2, .int (y)), (3, .int (z)), (4, .ref (oo))] := hl
  have hR : zO D cI cZ cJ ad oo B s s.heap [] S g := zO_of hP0
  refine lv_aload hx hb dL_itemAt_0 (lv_at hl 4 rfl) ?_
  refine lv_iconst (v := (nI 0)) hx hb dL_itemAt_2 (by decide) ?_
  refine lv_aload_n hx hb dL_itemAt_3 rfl (lv_at hl 0 rfl) ?_
  refine lv_iload_n hx hb dL_itemAt_4 rfl (lv_at hl 1 rfl) ?_
  refine lv_iload_n hx hb dL_itemAt_5 rfl (lv_at hl 2 rfl) ?_
  refine lv_iload_n hx hb dL_itemAt_6 rfl (lv_at hl 3 rfl) ?_
  refine z_oV_x (As := [.int (x), .int (y), .int (z)]) (rest := [.int (nI 0), .ref oo]) ⟨hx, hb, hml, hown, hts⟩ hF hoo hR (c_X4_itemAt_e1 hG hfl S x y z hO hxb) (cwV 3 hts gL_itemAt_X4_itemAt rfl rfl rfl (by decide +kernel) ⟨Nat.le_of_ble_eq_true rfl, Nat.le_of_ble_eq_true rfl⟩) rfl hl rfl (Nat.le_of_ble_eq_true rfl) (by decide) dL_itemAt_7 (fun E ce q9 H locs hp hR h1 h2 h3 => ?_)
  subst hp
  refine vx_catch (own := RL) (name := zIO) hown [] ⟨0, 12, 15, 13⟩ [] (by rw [hex]; rfl) (fun _ h => absurd h List.not_mem_nil) (by decide) (by decide) (hts (.classLink RL 13 zIO) (by decide +kernel)) (va_Nw.use rfl (hF.2.2.2.1 _ (by decide +kernel))) h1 h2 h3 ?_
  refine lv_astore (lv' := [(5, .ref (q9)), (0, .ref (ad 0)), (1, .int (x)), (2, .int (y)), (3, .int (z)), (4, .ref (oo))]) hx hb dL_itemAt_15 hl (by decide) rfl (fun ls hl => ?_)
  refine lv_iconst (v := (nI 1)) hx hb dL_itemAt_17 (by decide) ?_
  exact z_o_iret hx hb hr hlk hF hR dL_itemAt_18 ⟨rfl, rfl⟩
set_option maxHeartbeats 4000000 in
set_option maxRecDepth 100000 in
theorem o_itemAt_e2 {l : Launch} {D : va_G} {cI cZ cJ : ClassId} {ad : Nat → Nat} {B : Nat → Prop} {oo : Nat} (hG : ∀ S : zS, va_D B (wX cI cZ ad S)) (hoo : ¬ B oo) (hfl : l.stackTraces = false) (S : zS) (g : Nat → Int64) (p : Nat) (y z : Int32) (hO : zOK S) (hp : p < 4) (hxb : zbad y (zn S 22 0)) : zMW l yL_itemAt wsL_itemAt ({ frames := 8, cells := 1, slots := 6, locals := 126 } : Room) [.ref (ad 0), .int (nI (p)), .int (y), .int (z), .ref (oo)] D (zT3 cI cZ cJ) (zBo B oo) (wO cI cZ cJ ad oo) (S, g) (fun (r : Int32) (u : zS × (Nat → Int64)) => r = nI 1 ∧ u.1 = S) := by
  refine zMW_of (cc := cL_itemAt) (maxL := 6) (ret := (some .int)) (hh := [(0, 12, 15, 13)]) (by decide) rfl (Nat.le_of_ble_eq_true rfl) ?_
  intro pg en s mm below meth cd hx hb hr hml hown hts hlk hex hF hP0 ls hl
  have hl : lv_has ls 6 [(0, .ref (ad 0)), (1, .int (nI (p))), (2, .int (y)), (3, .int (z)), (4, .ref (oo))] := hl
  have hR : zO D cI cZ cJ ad oo B s s.heap [] S g := zO_of hP0
  refine lv_aload hx hb dL_itemAt_0 (lv_at hl 4 rfl) ?_
  refine lv_iconst (v := (nI 0)) hx hb dL_itemAt_2 (by decide) ?_
  refine lv_aload_n hx hb dL_itemAt_3 rfl (lv_at hl 0 rfl) ?_
  refine lv_iload_n hx hb dL_itemAt_4 rfl (lv_at hl 1 rfl) ?_
  refine lv_iload_n hx hb dL_itemAt_5 rfl (lv_at hl 2 rfl) ?_
  refine lv_iload_n hx hb dL_itemAt_6 rfl (lv_at hl 3 rfl) ?_
  refine z_oV_x (As := [.int (nI (p)), .int (y), .int (z)]) (rest := [.int (nI 0), .ref oo]) ⟨hx, hb, hml, hown, hts⟩ hF hoo hR (c_X4_itemAt_e2 hG hfl S p y z hO hp hxb) (cwV 3 hts gL_itemAt_X4_itemAt rfl rfl rfl (by decide +kernel) ⟨Nat.le_of_ble_eq_true rfl, Nat.le_of_ble_eq_true rfl⟩) rfl hl rfl (Nat.le_of_ble_eq_true rfl) (by decide) dL_itemAt_7 (fun E ce q9 H locs hp hR h1 h2 h3 => ?_)
  subst hp
  refine vx_catch (own := RL) (name := zIO) hown [] ⟨0, 12, 15, 13⟩ [] (by rw [hex]; rfl) (fun _ h => absurd h List.not_mem_nil) (by decide) (by decide) (hts (.classLink RL 13 zIO) (by decide +kernel)) (va_Nw.use rfl (hF.2.2.2.1 _ (by decide +kernel))) h1 h2 h3 ?_
  refine lv_astore (lv' := [(5, .ref (q9)), (0, .ref (ad 0)), (1, .int (nI (p))), (2, .int (y)), (3, .int (z)), (4, .ref (oo))]) hx hb dL_itemAt_15 hl (by decide) rfl (fun ls hl => ?_)
  refine lv_iconst (v := (nI 1)) hx hb dL_itemAt_17 (by decide) ?_
  exact z_o_iret hx hb hr hlk hF hR dL_itemAt_18 ⟨rfl, rfl⟩
set_option maxHeartbeats 4000000 in
set_option maxRecDepth 100000 in
theorem o_itemAt_e3 {l : Launch} {D : va_G} {cI cZ cJ : ClassId} {ad : Nat → Nat} {B : Nat → Prop} {oo : Nat} (hG : ∀ S : zS, va_D B (wX cI cZ ad S)) (hoo : ¬ B oo) (hfl : l.stackTraces = false) (S : zS) (g : Nat → Int64) (p w : Nat) (z : Int32) (hO : zOK S) (hp : p < 4) (hw : w < zn S 22 0) (hxb : zbad z (zn S 7 (4 * p + w))) : zMW l yL_itemAt wsL_itemAt ({ frames := 8, cells := 1, slots := 6, locals := 126 } : Room) [.ref (ad 0), .int (nI (p)), .int (nI (w)), .int (z), .ref (oo)] D (zT3 cI cZ cJ) (zBo B oo) (wO cI cZ cJ ad oo) (S, g) (fun (r : Int32) (u : zS × (Nat → Int64)) => r = nI 1 ∧ u.1 = S) := by
  refine zMW_of (cc := cL_itemAt) (maxL := 6) (ret := (some .int)) (hh := [(0, 12, 15, 13)]) (by decide) rfl (Nat.le_of_ble_eq_true rfl) ?_
  intro pg en s mm below meth cd hx hb hr hml hown hts hlk hex hF hP0 ls hl
  have hl : lv_has ls 6 [(0, .ref (ad 0)), (1, .int (nI (p))), (2, .int (nI (w))), (3, .int (z)), (4, .ref (oo))] := hl
  have hR : zO D cI cZ cJ ad oo B s s.heap [] S g := zO_of hP0
  refine lv_aload hx hb dL_itemAt_0 (lv_at hl 4 rfl) ?_
  refine lv_iconst (v := (nI 0)) hx hb dL_itemAt_2 (by decide) ?_
  refine lv_aload_n hx hb dL_itemAt_3 rfl (lv_at hl 0 rfl) ?_
  refine lv_iload_n hx hb dL_itemAt_4 rfl (lv_at hl 1 rfl) ?_
  refine lv_iload_n hx hb dL_itemAt_5 rfl (lv_at hl 2 rfl) ?_
  refine lv_iload_n hx hb dL_itemAt_6 rfl (lv_at hl 3 rfl) ?_
  refine z_oV_x (As := [.int (nI (p)), .int (nI (w)), .int (z)]) (rest := [.int (nI 0), .ref oo]) ⟨hx, hb, hml, hown, hts⟩ hF hoo hR (c_X4_itemAt_e3 hG hfl S p w z hO hp hw hxb) (cwV 3 hts gL_itemAt_X4_itemAt rfl rfl rfl (by decide +kernel) ⟨Nat.le_of_ble_eq_true rfl, Nat.le_of_ble_eq_true rfl⟩) rfl hl rfl (Nat.le_of_ble_eq_true rfl) (by decide) dL_itemAt_7 (fun E ce q9 H locs hp hR h1 h2 h3 => ?_)
  subst hp
  refine vx_catch (own := RL) (name := zIO) hown [] ⟨0, 12, 15, 13⟩ [] (by rw [hex]; rfl) (fun _ h => absurd h List.not_mem_nil) (by decide) (by decide) (hts (.classLink RL 13 zIO) (by decide +kernel)) (va_Nw.use rfl (hF.2.2.2.1 _ (by decide +kernel))) h1 h2 h3 ?_
  refine lv_astore (lv' := [(5, .ref (q9)), (0, .ref (ad 0)), (1, .int (nI (p))), (2, .int (nI (w))), (3, .int (z)), (4, .ref (oo))]) hx hb dL_itemAt_15 hl (by decide) rfl (fun ls hl => ?_)
  refine lv_iconst (v := (nI 1)) hx hb dL_itemAt_17 (by decide) ?_
  exact z_o_iret hx hb hr hlk hF hR dL_itemAt_18 ⟨rfl, rfl⟩
set_option maxHeartbeats 4000000 in
set_option maxRecDepth 100000 in
theorem o_itemAt_ok {l : Launch} {D : va_G} {cI cZ cJ : ClassId} {ad : Nat → Nat} {B : Nat → Prop} {oo : Nat} (hG : ∀ S : zS, va_D B (wX cI cZ ad S)) (hoo : ¬ B oo) (hfl : l.stackTraces = false) (S : zS) (g : Nat → Int64) (p w o : Nat) (hO : zOK S) (hp : p < 4) (hw : w < zn S 22 0) (ho : o < zn S 7 (4 * p + w)) : zMW l yL_itemAt wsL_itemAt ({ frames := 8, cells := 1, slots := 6, locals := 126 } : Room) [.ref (ad 0), .int (nI (p)), .int (nI (w)), .int (nI (o)), .ref (oo)] D (zT3 cI cZ cJ) (zBo B oo) (wO cI cZ cJ ad oo) (S, g) (fun (r : Int32) (u : zS × (Nat → Int64)) => r = nI 0 ∧ u.1 = S ∧ (u.2 0 = ((S 6 (8 * (4 * p + w) + o))).toInt64)) := by
  refine zMW_of (cc := cL_itemAt) (maxL := 6) (ret := (some .int)) (hh := [(0, 12, 15, 13)]) (by decide) rfl (Nat.le_of_ble_eq_true rfl) ?_
  intro pg en s mm below meth cd hx hb hr hml hown hts hlk hex hF hP0 ls hl
  have hl : lv_has ls 6 [(0, .ref (ad 0)), (1, .int (nI (p))), (2, .int (nI (w))), (3, .int (nI (o))), (4, .ref (oo))] := hl
  have hR : zO D cI cZ cJ ad oo B s s.heap [] S g := zO_of hP0
  refine lv_aload hx hb dL_itemAt_0 (lv_at hl 4 rfl) ?_
  refine lv_iconst (v := (nI 0)) hx hb dL_itemAt_2 (by decide) ?_
  refine lv_aload_n hx hb dL_itemAt_3 rfl (lv_at hl 0 rfl) ?_
  refine lv_iload_n hx hb dL_itemAt_4 rfl (lv_at hl 1 rfl) ?_
  refine lv_iload_n hx hb dL_itemAt_5 rfl (lv_at hl 2 rfl) ?_
  refine lv_iload_n hx hb dL_itemAt_6 rfl (lv_at hl 3 rfl) ?_
  refine z_oV_i (As := [.int (nI (p)), .int (nI (w)), .int (nI (o))]) (rest := [.int (nI 0), .ref oo]) ⟨hx, hb, hml, hown, hts⟩ hF hoo hR (c_X4_itemAt_ok hG S p w o hO hp hw ho) (cwV 3 hts gL_itemAt_X4_itemAt rfl rfl rfl (by decide +kernel) ⟨Nat.le_of_ble_eq_true rfl, Nat.le_of_ble_eq_true rfl⟩) rfl hl rfl (Nat.le_of_ble_eq_true rfl) (by decide) dL_itemAt_7 (fun r S1 H locs hp hR => ?_)
  obtain ⟨hr1, hs⟩ := hp
  subst r
  subst S1
  refine lv_i2l (v := ((S 6 (8 * (4 * p + w) + o))).toInt64) hx hb dL_itemAt_10 rfl ?_
  refine z_o_last hx hb hF hR hG hoo dL_itemAt_11 (fun H locs g1 hg hR => ?_)
  refine lv_goto (tgt := 19) hx hb dL_itemAt_12 (by decide) ?_
  refine lv_iconst (v := (nI 0)) hx hb dL_itemAt_19 (by decide) ?_
  refine W.widen (k := 1) (n := 6) (by decide) (by decide) ?_
  exact z_o_iret hx hb hr hlk hF hR dL_itemAt_20 ⟨rfl, rfl, hg⟩
set_option maxHeartbeats 4000000 in
set_option maxRecDepth 100000 in
theorem o_workerOf_e1 {l : Launch} {D : va_G} {cI cZ cJ : ClassId} {ad : Nat → Nat} {B : Nat → Prop} {oo : Nat} (hG : ∀ S : zS, va_D B (wX cI cZ ad S)) (hoo : ¬ B oo) (hfl : l.stackTraces = false) (S : zS) (g : Nat → Int64) (x : Int32) (hO : zOK S) (hxb : zbad x 32) : zMW l yL_workerOf wsL_workerOf ({ frames := 8, cells := 1, slots := 6, locals := 123 } : Room) [.ref (ad 0), .int (x), .ref (oo)] D (zT3 cI cZ cJ) (zBo B oo) (wO cI cZ cJ ad oo) (S, g) (fun (r : Int32) (u : zS × (Nat → Int64)) => r = nI 1 ∧ u.1 = S) := by
  refine zMW_of (cc := cL_workerOf) (maxL := 4) (ret := (some .int)) (hh := [(0, 9, 12, 13)]) (by decide) rfl (Nat.le_of_ble_eq_true rfl) ?_
  intro pg en s mm below meth cd hx hb hr hml hown hts hlk hex hF hP0 ls hl
  have hl : lv_has ls 4 [(0, .ref (ad 0)), (1, .int (x)), (2, .ref (oo))] := hl
  have hR : zO D cI cZ cJ ad oo B s s.heap [] S g := zO_of hP0
  refine lv_aload_n hx hb dL_workerOf_0 rfl (lv_at hl 2 rfl) ?_
  refine lv_iconst (v := (nI 0)) hx hb dL_workerOf_1 (by decide) ?_
  refine lv_aload_n hx hb dL_workerOf_2 rfl (lv_at hl 0 rfl) ?_
  refine lv_iload_n hx hb dL_workerOf_3 rfl (lv_at hl 1 rfl) ?_
  refine z_oV_x (As := [.int (x)]) (rest := [.int (nI 0), .ref oo]) ⟨hx, hb, hml, hown, hts⟩ hF hoo hR (c_X4_workerOf_e1 hG hfl S x hO hxb) (cwV 1 hts gL_workerOf_X4_workerOf rfl rfl rfl (by decide +kernel) ⟨Nat.le_of_ble_eq_true rfl, Nat.le_of_ble_eq_true rfl⟩) rfl hl rfl (Nat.le_of_ble_eq_true rfl) (by decide) dL_workerOf_4 (fun E ce q9 H locs hp hR h1 h2 h3 => ?_)
  subst hp
  refine vx_catch (own := RL) (name := zIO) hown [] ⟨0, 9, 12, 13⟩ [] (by rw [hex]; rfl) (fun _ h => absurd h List.not_mem_nil) (by decide) (by decide) (hts (.classLink RL 13 zIO) (by decide +kernel)) (va_Nw.use rfl (hF.2.2.2.1 _ (by decide +kernel))) h1 h2 h3 ?_
  refine lv_astore_n (lv' := [(3, .ref (q9)), (0, .ref (ad 0)), (1, .int (x)), (2, .ref (oo))]) hx hb dL_workerOf_12 rfl hl (by decide) rfl (fun ls hl => ?_)
  refine lv_iconst (v := (nI 1)) hx hb dL_workerOf_13 (by decide) ?_
  exact z_o_iret hx hb hr hlk hF hR dL_workerOf_14 ⟨rfl, rfl⟩
set_option maxHeartbeats 4000000 in
set_option maxRecDepth 100000 in
theorem o_workerOf_ok {l : Launch} {D : va_G} {cI cZ cJ : ClassId} {ad : Nat → Nat} {B : Nat → Prop} {oo : Nat} (hG : ∀ S : zS, va_D B (wX cI cZ ad S)) (hoo : ¬ B oo) (hfl : l.stackTraces = false) (S : zS) (g : Nat → Int64) (key : Nat) (hO : zOK S) (hk : key < 32) : zMW l yL_workerOf wsL_workerOf ({ frames := 8, cells := 1, slots := 6, locals := 123 } : Room) [.ref (ad 0), .int (nI (key)), .ref (oo)] D (zT3 cI cZ cJ) (zBo B oo) (wO cI cZ cJ ad oo) (S, g) (fun (r : Int32) (u : zS × (Nat → Int64)) => r = nI 0 ∧ u.1 = S ∧ (u.2 0 = ((nI (zown (zn S 22 0) key))).toInt64)) := by
  refine zMW_of (cc := cL_workerOf) (maxL := 4) (ret := (some .int)) (hh := [(0, 9, 12, 13)]) (by decide) rfl (Nat.le_of_ble_eq_true rfl) ?_
  intro pg en s mm below meth cd hx hb hr hml hown hts hlk hex hF hP0 ls hl
  have hl : lv_has ls 4 [(0, .ref (ad 0)), (1, .int (nI (key))), (2, .ref (oo))] := hl
  have hR : zO D cI cZ cJ ad oo B s s.heap [] S g := zO_of hP0
  refine lv_aload_n hx hb dL_workerOf_0 rfl (lv_at hl 2 rfl) ?_
  refine lv_iconst (v := (nI 0)) hx hb dL_workerOf_1 (by decide) ?_
  refine lv_aload_n hx hb dL_workerOf_2 rfl (lv_at hl 0 rfl) ?_
  refine lv_iload_n hx hb dL_workerOf_3 rfl (lv_at hl 1 rfl) ?_
  refine z_oV_i (As := [.int (nI (key))]) (rest := [.int (nI 0), .ref oo]) ⟨hx, hb, hml, hown, hts⟩ hF hoo hR (c_X4_workerOf_ok hG S key hO hk) (cwV 1 hts gL_workerOf_X4_workerOf rfl rfl rfl (by decide +kernel) ⟨Nat.le_of_ble_eq_true rfl, Nat.le_of_ble_eq_true rfl⟩) rfl hl rfl (Nat.le_of_ble_eq_true rfl) (by decide) dL_workerOf_4 (fun r S1 H locs hp hR => ?_)
  obtain ⟨hr1, hs⟩ := hp
  subst r
  subst S1
  refine lv_i2l (v := ((nI (zown (zn S 22 0) key))).toInt64) hx hb dL_workerOf_7 rfl ?_
  refine z_o_last hx hb hF hR hG hoo dL_workerOf_8 (fun H locs g1 hg hR => ?_)
  refine lv_goto (tgt := 15) hx hb dL_workerOf_9 (by decide) ?_
  refine lv_iconst (v := (nI 0)) hx hb dL_workerOf_15 (by decide) ?_
  refine W.widen (k := 1) (n := 6) (by decide) (by decide) ?_
  exact z_o_iret hx hb hr hlk hF hR dL_workerOf_16 ⟨rfl, rfl, hg⟩
set_option maxHeartbeats 4000000 in
set_option maxRecDepth 100000 in
theorem o_count_e1 {l : Launch} {D : va_G} {cI cZ cJ : ClassId} {ad : Nat → Nat} {B : Nat → Prop} {oo : Nat} (hG : ∀ S : zS, va_D B (wX cI cZ ad S)) (hoo : ¬ B oo) (hfl : l.stackTraces = false) (S : zS) (g : Nat → Int64) (x : Int32) (hO : zOK S) (hxb : zbad x 32) : zMW l yL_count wsL_count ({ frames := 8, cells := 1, slots := 6, locals := 123 } : Room) [.ref (ad 0), .int (x), .ref (oo)] D (zT3 cI cZ cJ) (zBo B oo) (wO cI cZ cJ ad oo) (S, g) (fun (r : Int32) (u : zS × (Nat → Int64)) => r = nI 1 ∧ u.1 = S) := by
  refine zMW_of (cc := cL_count) (maxL := 4) (ret := (some .int)) (hh := [(0, 9, 12, 13)]) (by decide) rfl (Nat.le_of_ble_eq_true rfl) ?_
  intro pg en s mm below meth cd hx hb hr hml hown hts hlk hex hF hP0 ls hl
  have hl : lv_has ls 4 [(0, .ref (ad 0)), (1, .int (x)), (2, .ref (oo))] := hl
  have hR : zO D cI cZ cJ ad oo B s s.heap [] S g := zO_of hP0
  refine lv_aload_n hx hb dL_count_0 rfl (lv_at hl 2 rfl) ?_
  refine lv_iconst (v := (nI 0)) hx hb dL_count_1 (by decide) ?_
  refine lv_aload_n hx hb dL_count_2 rfl (lv_at hl 0 rfl) ?_
  refine lv_iload_n hx hb dL_count_3 rfl (lv_at hl 1 rfl) ?_
  refine z_oV_x (As := [.int (x)]) (rest := [.int (nI 0), .ref oo]) ⟨hx, hb, hml, hown, hts⟩ hF hoo hR (c_X4_count_e1 hG hfl S x hO hxb) (cwV 1 hts gL_count_X4_count rfl rfl rfl (by decide +kernel) ⟨Nat.le_of_ble_eq_true rfl, Nat.le_of_ble_eq_true rfl⟩) rfl hl rfl (Nat.le_of_ble_eq_true rfl) (by decide) dL_count_4 (fun E ce q9 H locs hp hR h1 h2 h3 => ?_)
  subst hp
  refine vx_catch (own := RL) (name := zIO) hown [] ⟨0, 9, 12, 13⟩ [] (by rw [hex]; rfl) (fun _ h => absurd h List.not_mem_nil) (by decide) (by decide) (hts (.classLink RL 13 zIO) (by decide +kernel)) (va_Nw.use rfl (hF.2.2.2.1 _ (by decide +kernel))) h1 h2 h3 ?_
  refine lv_astore_n (lv' := [(3, .ref (q9)), (0, .ref (ad 0)), (1, .int (x)), (2, .ref (oo))]) hx hb dL_count_12 rfl hl (by decide) rfl (fun ls hl => ?_)
  refine lv_iconst (v := (nI 1)) hx hb dL_count_13 (by decide) ?_
  exact z_o_iret hx hb hr hlk hF hR dL_count_14 ⟨rfl, rfl⟩
set_option maxHeartbeats 4000000 in
set_option maxRecDepth 100000 in
theorem o_count_ok {l : Launch} {D : va_G} {cI cZ cJ : ClassId} {ad : Nat → Nat} {B : Nat → Prop} {oo : Nat} (hG : ∀ S : zS, va_D B (wX cI cZ ad S)) (hoo : ¬ B oo) (hfl : l.stackTraces = false) (S : zS) (g : Nat → Int64) (key : Nat) (hO : zOK S) (hk : key < 32) : zMW l yL_count wsL_count ({ frames := 8, cells := 1, slots := 6, locals := 123 } : Room) [.ref (ad 0), .int (nI (key)), .ref (oo)] D (zT3 cI cZ cJ) (zBo B oo) (wO cI cZ cJ ad oo) (S, g) (fun (r : Int32) (u : zS × (Nat → Int64)) => r = nI 0 ∧ u.1 = S ∧ (u.2 0 = ((S 9 key)).toInt64)) := by
  refine zMW_of (cc := cL_count) (maxL := 4) (ret := (some .int)) (hh := [(0, 9, 12, 13)]) (by decide) rfl (Nat.le_of_ble_eq_true rfl) ?_
  intro pg en s mm below meth cd hx hb hr hml hown hts hlk hex hF hP0 ls hl
  have hl : lv_has ls 4 [(0, .ref (ad 0)), (1, .int (nI (key))), (2, .ref (oo))] := hl
  have hR : zO D cI cZ cJ ad oo B s s.heap [] S g := zO_of hP0
  refine lv_aload_n hx hb dL_count_0 rfl (lv_at hl 2 rfl) ?_
  refine lv_iconst (v := (nI 0)) hx hb dL_count_1 (by decide) ?_
  refine lv_aload_n hx hb dL_count_2 rfl (lv_at hl 0 rfl) ?_
  refine lv_iload_n hx hb dL_count_3 rfl (lv_at hl 1 rfl) ?_
  refine z_oV_i (As := [.int (nI (key))]) (rest := [.int (nI 0), .ref oo]) ⟨hx, hb, hml, hown, hts⟩ hF hoo hR (c_X4_count_ok hG S key hO hk) (cwV 1 hts gL_count_X4_count rfl rfl rfl (by decide +kernel) ⟨Nat.le_of_ble_eq_true rfl, Nat.le_of_ble_eq_true rfl⟩) rfl hl rfl (Nat.le_of_ble_eq_true rfl) (by decide) dL_count_4 (fun r S1 H locs hp hR => ?_)
  obtain ⟨hr1, hs⟩ := hp
  subst r
  subst S1
  refine lv_i2l (v := ((S 9 key)).toInt64) hx hb dL_count_7 rfl ?_
  refine z_o_last hx hb hF hR hG hoo dL_count_8 (fun H locs g1 hg hR => ?_)
  refine lv_goto (tgt := 15) hx hb dL_count_9 (by decide) ?_
  refine lv_iconst (v := (nI 0)) hx hb dL_count_15 (by decide) ?_
  refine W.widen (k := 1) (n := 6) (by decide) (by decide) ?_
  exact z_o_iret hx hb hr hlk hF hR dL_count_16 ⟨rfl, rfl, hg⟩
set_option maxHeartbeats 4000000 in
set_option maxRecDepth 100000 in
theorem o_sum_e1 {l : Launch} {D : va_G} {cI cZ cJ : ClassId} {ad : Nat → Nat} {B : Nat → Prop} {oo : Nat} (hG : ∀ S : zS, va_D B (wX cI cZ ad S)) (hoo : ¬ B oo) (hfl : l.stackTraces = false) (S : zS) (g : Nat → Int64) (x : Int32) (hO : zOK S) (hxb : zbad x 32) : zMW l yL_sum wsL_sum ({ frames := 8, cells := 1, slots := 6, locals := 123 } : Room) [.ref (ad 0), .int (x), .ref (oo)] D (zT3 cI cZ cJ) (zBo B oo) (wO cI cZ cJ ad oo) (S, g) (fun (r : Int32) (u : zS × (Nat → Int64)) => r = nI 1 ∧ u.1 = S) := by
  refine zMW_of (cc := cL_sum) (maxL := 4) (ret := (some .int)) (hh := [(0, 9, 12, 13)]) (by decide) rfl (Nat.le_of_ble_eq_true rfl) ?_
  intro pg en s mm below meth cd hx hb hr hml hown hts hlk hex hF hP0 ls hl
  have hl : lv_has ls 4 [(0, .ref (ad 0)), (1, .int (x)), (2, .ref (oo))] := hl
  have hR : zO D cI cZ cJ ad oo B s s.heap [] S g := zO_of hP0
  refine lv_aload_n hx hb dL_sum_0 rfl (lv_at hl 2 rfl) ?_
  refine lv_iconst (v := (nI 0)) hx hb dL_sum_1 (by decide) ?_
  refine lv_aload_n hx hb dL_sum_2 rfl (lv_at hl 0 rfl) ?_
  refine lv_iload_n hx hb dL_sum_3 rfl (lv_at hl 1 rfl) ?_
  refine z_oV_x (As := [.int (x)]) (rest := [.int (nI 0), .ref oo]) ⟨hx, hb, hml, hown, hts⟩ hF hoo hR (c_X4_sum_e1 hG hfl S x hO hxb) (cwV 1 hts gL_sum_X4_sum rfl rfl rfl (by decide +kernel) ⟨Nat.le_of_ble_eq_true rfl, Nat.le_of_ble_eq_true rfl⟩) rfl hl rfl (Nat.le_of_ble_eq_true rfl) (by decide) dL_sum_4 (fun E ce q9 H locs hp hR h1 h2 h3 => ?_)
  subst hp
  refine vx_catch (own := RL) (name := zIO) hown [] ⟨0, 9, 12, 13⟩ [] (by rw [hex]; rfl) (fun _ h => absurd h List.not_mem_nil) (by decide) (by decide) (hts (.classLink RL 13 zIO) (by decide +kernel)) (va_Nw.use rfl (hF.2.2.2.1 _ (by decide +kernel))) h1 h2 h3 ?_
  refine lv_astore_n (lv' := [(3, .ref (q9)), (0, .ref (ad 0)), (1, .int (x)), (2, .ref (oo))]) hx hb dL_sum_12 rfl hl (by decide) rfl (fun ls hl => ?_)
  refine lv_iconst (v := (nI 1)) hx hb dL_sum_13 (by decide) ?_
  exact z_o_iret hx hb hr hlk hF hR dL_sum_14 ⟨rfl, rfl⟩
set_option maxHeartbeats 4000000 in
set_option maxRecDepth 100000 in
theorem o_sum_ok {l : Launch} {D : va_G} {cI cZ cJ : ClassId} {ad : Nat → Nat} {B : Nat → Prop} {oo : Nat} (hG : ∀ S : zS, va_D B (wX cI cZ ad S)) (hoo : ¬ B oo) (hfl : l.stackTraces = false) (S : zS) (g : Nat → Int64) (key : Nat) (hO : zOK S) (hk : key < 32) : zMW l yL_sum wsL_sum ({ frames := 8, cells := 1, slots := 6, locals := 123 } : Room) [.ref (ad 0), .int (nI (key)), .ref (oo)] D (zT3 cI cZ cJ) (zBo B oo) (wO cI cZ cJ ad oo) (S, g) (fun (r : Int32) (u : zS × (Nat → Int64)) => r = nI 0 ∧ u.1 = S ∧ (u.2 0 = ((S 10 key)).toInt64)) := by
  refine zMW_of (cc := cL_sum) (maxL := 4) (ret := (some .int)) (hh := [(0, 9, 12, 13)]) (by decide) rfl (Nat.le_of_ble_eq_true rfl) ?_
  intro pg en s mm below meth cd hx hb hr hml hown hts hlk hex hF hP0 ls hl
  have hl : lv_has ls 4 [(0, .ref (ad 0)), (1, .int (nI (key))), (2, .ref (oo))] := hl
  have hR : zO D cI cZ cJ ad oo B s s.heap [] S g := zO_of hP0
  refine lv_aload_n hx hb dL_sum_0 rfl (lv_at hl 2 rfl) ?_
  refine lv_iconst (v := (nI 0)) hx hb dL_sum_1 (by decide) ?_
  refine lv_aload_n hx hb dL_sum_2 rfl (lv_at hl 0 rfl) ?_
  refine lv_iload_n hx hb dL_sum_3 rfl (lv_at hl 1 rfl) ?_
  refine z_oV_i (As := [.int (nI (key))]) (rest := [.int (nI 0), .ref oo]) ⟨hx, hb, hml, hown, hts⟩ hF hoo hR (c_X4_sum_ok hG S key hO hk) (cwV 1 hts gL_sum_X4_sum rfl rfl rfl (by decide +kernel) ⟨Nat.le_of_ble_eq_true rfl, Nat.le_of_ble_eq_true rfl⟩) rfl hl rfl (Nat.le_of_ble_eq_true rfl) (by decide) dL_sum_4 (fun r S1 H locs hp hR => ?_)
  obtain ⟨hr1, hs⟩ := hp
  subst r
  subst S1
  refine lv_i2l (v := ((S 10 key)).toInt64) hx hb dL_sum_7 rfl ?_
  refine z_o_last hx hb hF hR hG hoo dL_sum_8 (fun H locs g1 hg hR => ?_)
  refine lv_goto (tgt := 15) hx hb dL_sum_9 (by decide) ?_
  refine lv_iconst (v := (nI 0)) hx hb dL_sum_15 (by decide) ?_
  refine W.widen (k := 1) (n := 6) (by decide) (by decide) ?_
  exact z_o_iret hx hb hr hlk hF hR dL_sum_16 ⟨rfl, rfl, hg⟩
set_option maxHeartbeats 4000000 in
set_option maxRecDepth 100000 in
theorem o_keptSum_e1 {l : Launch} {D : va_G} {cI cZ cJ : ClassId} {ad : Nat → Nat} {B : Nat → Prop} {oo : Nat} (hG : ∀ S : zS, va_D B (wX cI cZ ad S)) (hoo : ¬ B oo) (hfl : l.stackTraces = false) (S : zS) (g : Nat → Int64) (x : Int32) (hO : zOK S) (hxb : zbad x 32) : zMW l yL_keptSum wsL_keptSum ({ frames := 8, cells := 1, slots := 6, locals := 123 } : Room) [.ref (ad 0), .int (x), .ref (oo)] D (zT3 cI cZ cJ) (zBo B oo) (wO cI cZ cJ ad oo) (S, g) (fun (r : Int32) (u : zS × (Nat → Int64)) => r = nI 1 ∧ u.1 = S) := by
  refine zMW_of (cc := cL_keptSum) (maxL := 4) (ret := (some .int)) (hh := [(0, 9, 12, 13)]) (by decide) rfl (Nat.le_of_ble_eq_true rfl) ?_
  intro pg en s mm below meth cd hx hb hr hml hown hts hlk hex hF hP0 ls hl
  have hl : lv_has ls 4 [(0, .ref (ad 0)), (1, .int (x)), (2, .ref (oo))] := hl
  have hR : zO D cI cZ cJ ad oo B s s.heap [] S g := zO_of hP0
  refine lv_aload_n hx hb dL_keptSum_0 rfl (lv_at hl 2 rfl) ?_
  refine lv_iconst (v := (nI 0)) hx hb dL_keptSum_1 (by decide) ?_
  refine lv_aload_n hx hb dL_keptSum_2 rfl (lv_at hl 0 rfl) ?_
  refine lv_iload_n hx hb dL_keptSum_3 rfl (lv_at hl 1 rfl) ?_
  refine z_oV_x (As := [.int (x)]) (rest := [.int (nI 0), .ref oo]) ⟨hx, hb, hml, hown, hts⟩ hF hoo hR (c_X4_keptSum_e1 hG hfl S x hO hxb) (cwV 1 hts gL_keptSum_X4_keptSum rfl rfl rfl (by decide +kernel) ⟨Nat.le_of_ble_eq_true rfl, Nat.le_of_ble_eq_true rfl⟩) rfl hl rfl (Nat.le_of_ble_eq_true rfl) (by decide) dL_keptSum_4 (fun E ce q9 H locs hp hR h1 h2 h3 => ?_)
  subst hp
  refine vx_catch (own := RL) (name := zIO) hown [] ⟨0, 9, 12, 13⟩ [] (by rw [hex]; rfl) (fun _ h => absurd h List.not_mem_nil) (by decide) (by decide) (hts (.classLink RL 13 zIO) (by decide +kernel)) (va_Nw.use rfl (hF.2.2.2.1 _ (by decide +kernel))) h1 h2 h3 ?_
  refine lv_astore_n (lv' := [(3, .ref (q9)), (0, .ref (ad 0)), (1, .int (x)), (2, .ref (oo))]) hx hb dL_keptSum_12 rfl hl (by decide) rfl (fun ls hl => ?_)
  refine lv_iconst (v := (nI 1)) hx hb dL_keptSum_13 (by decide) ?_
  exact z_o_iret hx hb hr hlk hF hR dL_keptSum_14 ⟨rfl, rfl⟩
set_option maxHeartbeats 4000000 in
set_option maxRecDepth 100000 in
theorem o_keptSum_ok {l : Launch} {D : va_G} {cI cZ cJ : ClassId} {ad : Nat → Nat} {B : Nat → Prop} {oo : Nat} (hG : ∀ S : zS, va_D B (wX cI cZ ad S)) (hoo : ¬ B oo) (hfl : l.stackTraces = false) (S : zS) (g : Nat → Int64) (key : Nat) (hO : zOK S) (hk : key < 32) : zMW l yL_keptSum wsL_keptSum ({ frames := 8, cells := 1, slots := 6, locals := 123 } : Room) [.ref (ad 0), .int (nI (key)), .ref (oo)] D (zT3 cI cZ cJ) (zBo B oo) (wO cI cZ cJ ad oo) (S, g) (fun (r : Int32) (u : zS × (Nat → Int64)) => r = nI 0 ∧ u.1 = S ∧ (u.2 0 = ((S 18 key)).toInt64)) := by
  refine zMW_of (cc := cL_keptSum) (maxL := 4) (ret := (some .int)) (hh := [(0, 9, 12, 13)]) (by decide) rfl (Nat.le_of_ble_eq_true rfl) ?_
  intro pg en s mm below meth cd hx hb hr hml hown hts hlk hex hF hP0 ls hl
  have hl : lv_has ls 4 [(0, .ref (ad 0)), (1, .int (nI (key))), (2, .ref (oo))] := hl
  have hR : zO D cI cZ cJ ad oo B s s.heap [] S g := zO_of hP0
  refine lv_aload_n hx hb dL_keptSum_0 rfl (lv_at hl 2 rfl) ?_
  refine lv_iconst (v := (nI 0)) hx hb dL_keptSum_1 (by decide) ?_
  refine lv_aload_n hx hb dL_keptSum_2 rfl (lv_at hl 0 rfl) ?_
  refine lv_iload_n hx hb dL_keptSum_3 rfl (lv_at hl 1 rfl) ?_
  refine z_oV_i (As := [.int (nI (key))]) (rest := [.int (nI 0), .ref oo]) ⟨hx, hb, hml, hown, hts⟩ hF hoo hR (c_X4_keptSum_ok hG S key hO hk) (cwV 1 hts gL_keptSum_X4_keptSum rfl rfl rfl (by decide +kernel) ⟨Nat.le_of_ble_eq_true rfl, Nat.le_of_ble_eq_true rfl⟩) rfl hl rfl (Nat.le_of_ble_eq_true rfl) (by decide) dL_keptSum_4 (fun r S1 H locs hp hR => ?_)
  obtain ⟨hr1, hs⟩ := hp
  subst r
  subst S1
  refine lv_i2l (v := ((S 18 key)).toInt64) hx hb dL_keptSum_7 rfl ?_
  refine z_o_last hx hb hF hR hG hoo dL_keptSum_8 (fun H locs g1 hg hR => ?_)
  refine lv_goto (tgt := 15) hx hb dL_keptSum_9 (by decide) ?_
  refine lv_iconst (v := (nI 0)) hx hb dL_keptSum_15 (by decide) ?_
  refine W.widen (k := 1) (n := 6) (by decide) (by decide) ?_
  exact z_o_iret hx hb hr hlk hF hR dL_keptSum_16 ⟨rfl, rfl, hg⟩
set_option maxHeartbeats 4000000 in
set_option maxRecDepth 100000 in
theorem o_committedCount_e1 {l : Launch} {D : va_G} {cI cZ cJ : ClassId} {ad : Nat → Nat} {B : Nat → Prop} {oo : Nat} (hG : ∀ S : zS, va_D B (wX cI cZ ad S)) (hoo : ¬ B oo) (hfl : l.stackTraces = false) (S : zS) (g : Nat → Int64) (x : Int32) (hO : zOK S) (hxb : zbad x 32) : zMW l yL_committedCount wsL_committedCount ({ frames := 8, cells := 1, slots := 6, locals := 123 } : Room) [.ref (ad 0), .int (x), .ref (oo)] D (zT3 cI cZ cJ) (zBo B oo) (wO cI cZ cJ ad oo) (S, g) (fun (r : Int32) (u : zS × (Nat → Int64)) => r = nI 1 ∧ u.1 = S) := by
  refine zMW_of (cc := cL_committedCount) (maxL := 4) (ret := (some .int)) (hh := [(0, 9, 12, 13)]) (by decide) rfl (Nat.le_of_ble_eq_true rfl) ?_
  intro pg en s mm below meth cd hx hb hr hml hown hts hlk hex hF hP0 ls hl
  have hl : lv_has ls 4 [(0, .ref (ad 0)), (1, .int (x)), (2, .ref (oo))] := hl
  have hR : zO D cI cZ cJ ad oo B s s.heap [] S g := zO_of hP0
  refine lv_aload_n hx hb dL_committedCount_0 rfl (lv_at hl 2 rfl) ?_
  refine lv_iconst (v := (nI 0)) hx hb dL_committedCount_1 (by decide) ?_
  refine lv_aload_n hx hb dL_committedCount_2 rfl (lv_at hl 0 rfl) ?_
  refine lv_iload_n hx hb dL_committedCount_3 rfl (lv_at hl 1 rfl) ?_
  refine z_oV_x (As := [.int (x)]) (rest := [.int (nI 0), .ref oo]) ⟨hx, hb, hml, hown, hts⟩ hF hoo hR (c_X4_committedCount_e1 hG hfl S x hO hxb) (cwV 1 hts gL_committedCount_X4_committedCount rfl rfl rfl (by decide +kernel) ⟨Nat.le_of_ble_eq_true rfl, Nat.le_of_ble_eq_true rfl⟩) rfl hl rfl (Nat.le_of_ble_eq_true rfl) (by decide) dL_committedCount_4 (fun E ce q9 H locs hp hR h1 h2 h3 => ?_)
  subst hp
  refine vx_catch (own := RL) (name := zIO) hown [] ⟨0, 9, 12, 13⟩ [] (by rw [hex]; rfl) (fun _ h => absurd h List.not_mem_nil) (by decide) (by decide) (hts (.classLink RL 13 zIO) (by decide +kernel)) (va_Nw.use rfl (hF.2.2.2.1 _ (by decide +kernel))) h1 h2 h3 ?_
  refine lv_astore_n (lv' := [(3, .ref (q9)), (0, .ref (ad 0)), (1, .int (x)), (2, .ref (oo))]) hx hb dL_committedCount_12 rfl hl (by decide) rfl (fun ls hl => ?_)
  refine lv_iconst (v := (nI 1)) hx hb dL_committedCount_13 (by decide) ?_
  exact z_o_iret hx hb hr hlk hF hR dL_committedCount_14 ⟨rfl, rfl⟩
set_option maxHeartbeats 4000000 in
set_option maxRecDepth 100000 in
theorem o_committedCount_ok {l : Launch} {D : va_G} {cI cZ cJ : ClassId} {ad : Nat → Nat} {B : Nat → Prop} {oo : Nat} (hG : ∀ S : zS, va_D B (wX cI cZ ad S)) (hoo : ¬ B oo) (hfl : l.stackTraces = false) (S : zS) (g : Nat → Int64) (key : Nat) (hO : zOK S) (hk : key < 32) : zMW l yL_committedCount wsL_committedCount ({ frames := 8, cells := 1, slots := 6, locals := 123 } : Room) [.ref (ad 0), .int (nI (key)), .ref (oo)] D (zT3 cI cZ cJ) (zBo B oo) (wO cI cZ cJ ad oo) (S, g) (fun (r : Int32) (u : zS × (Nat → Int64)) => r = nI 0 ∧ u.1 = S ∧ (u.2 0 = ((S 19 key)).toInt64)) := by
  refine zMW_of (cc := cL_committedCount) (maxL := 4) (ret := (some .int)) (hh := [(0, 9, 12, 13)]) (by decide) rfl (Nat.le_of_ble_eq_true rfl) ?_
  intro pg en s mm below meth cd hx hb hr hml hown hts hlk hex hF hP0 ls hl
  have hl : lv_has ls 4 [(0, .ref (ad 0)), (1, .int (nI (key))), (2, .ref (oo))] := hl
  have hR : zO D cI cZ cJ ad oo B s s.heap [] S g := zO_of hP0
  refine lv_aload_n hx hb dL_committedCount_0 rfl (lv_at hl 2 rfl) ?_
  refine lv_iconst (v := (nI 0)) hx hb dL_committedCount_1 (by decide) ?_
  refine lv_aload_n hx hb dL_committedCount_2 rfl (lv_at hl 0 rfl) ?_
  refine lv_iload_n hx hb dL_committedCount_3 rfl (lv_at hl 1 rfl) ?_
  refine z_oV_i (As := [.int (nI (key))]) (rest := [.int (nI 0), .ref oo]) ⟨hx, hb, hml, hown, hts⟩ hF hoo hR (c_X4_committedCount_ok hG S key hO hk) (cwV 1 hts gL_committedCount_X4_committedCount rfl rfl rfl (by decide +kernel) ⟨Nat.le_of_ble_eq_true rfl, Nat.le_of_ble_eq_true rfl⟩) rfl hl rfl (Nat.le_of_ble_eq_true rfl) (by decide) dL_committedCount_4 (fun r S1 H locs hp hR => ?_)
  obtain ⟨hr1, hs⟩ := hp
  subst r
  subst S1
  refine lv_i2l (v := ((S 19 key)).toInt64) hx hb dL_committedCount_7 rfl ?_
  refine z_o_last hx hb hF hR hG hoo dL_committedCount_8 (fun H locs g1 hg hR => ?_)
  refine lv_goto (tgt := 15) hx hb dL_committedCount_9 (by decide) ?_
  refine lv_iconst (v := (nI 0)) hx hb dL_committedCount_15 (by decide) ?_
  refine W.widen (k := 1) (n := 6) (by decide) (by decide) ?_
  exact z_o_iret hx hb hr hlk hF hR dL_committedCount_16 ⟨rfl, rfl, hg⟩
set_option maxHeartbeats 4000000 in
set_option maxRecDepth 100000 in
theorem o_committedSum_e1 {l : Launch} {D : va_G} {cI cZ cJ : ClassId} {ad : Nat → Nat} {B : Nat → Prop} {oo : Nat} (hG : ∀ S : zS, va_D B (wX cI cZ ad S)) (hoo : ¬ B oo) (hfl : l.stackTraces = false) (S : zS) (g : Nat → Int64) (x : Int32) (hO : zOK S) (hxb : zbad x 32) : zMW l yL_committedSum wsL_committedSum ({ frames := 8, cells := 1, slots := 6, locals := 123 } : Room) [.ref (ad 0), .int (x), .ref (oo)] D (zT3 cI cZ cJ) (zBo B oo) (wO cI cZ cJ ad oo) (S, g) (fun (r : Int32) (u : zS × (Nat → Int64)) => r = nI 1 ∧ u.1 = S) := by
  refine zMW_of (cc := cL_committedSum) (maxL := 4) (ret := (some .int)) (hh := [(0, 9, 12, 13)]) (by decide) rfl (Nat.le_of_ble_eq_true rfl) ?_
  intro pg en s mm below meth cd hx hb hr hml hown hts hlk hex hF hP0 ls hl
  have hl : lv_has ls 4 [(0, .ref (ad 0)), (1, .int (x)), (2, .ref (oo))] := hl
  have hR : zO D cI cZ cJ ad oo B s s.heap [] S g := zO_of hP0
  refine lv_aload_n hx hb dL_committedSum_0 rfl (lv_at hl 2 rfl) ?_
  refine lv_iconst (v := (nI 0)) hx hb dL_committedSum_1 (by decide) ?_
  refine lv_aload_n hx hb dL_committedSum_2 rfl (lv_at hl 0 rfl) ?_
  refine lv_iload_n hx hb dL_committedSum_3 rfl (lv_at hl 1 rfl) ?_
  refine z_oV_x (As := [.int (x)]) (rest := [.int (nI 0), .ref oo]) ⟨hx, hb, hml, hown, hts⟩ hF hoo hR (c_X4_committedSum_e1 hG hfl S x hO hxb) (cwV 1 hts gL_committedSum_X4_committedSum rfl rfl rfl (by decide +kernel) ⟨Nat.le_of_ble_eq_true rfl, Nat.le_of_ble_eq_true rfl⟩) rfl hl rfl (Nat.le_of_ble_eq_true rfl) (by decide) dL_committedSum_4 (fun E ce q9 H locs hp hR h1 h2 h3 => ?_)
  subst hp
  refine vx_catch (own := RL) (name := zIO) hown [] ⟨0, 9, 12, 13⟩ [] (by rw [hex]; rfl) (fun _ h => absurd h List.not_mem_nil) (by decide) (by decide) (hts (.classLink RL 13 zIO) (by decide +kernel)) (va_Nw.use rfl (hF.2.2.2.1 _ (by decide +kernel))) h1 h2 h3 ?_
  refine lv_astore_n (lv' := [(3, .ref (q9)), (0, .ref (ad 0)), (1, .int (x)), (2, .ref (oo))]) hx hb dL_committedSum_12 rfl hl (by decide) rfl (fun ls hl => ?_)
  refine lv_iconst (v := (nI 1)) hx hb dL_committedSum_13 (by decide) ?_
  exact z_o_iret hx hb hr hlk hF hR dL_committedSum_14 ⟨rfl, rfl⟩
set_option maxHeartbeats 4000000 in
set_option maxRecDepth 100000 in
theorem o_committedSum_ok {l : Launch} {D : va_G} {cI cZ cJ : ClassId} {ad : Nat → Nat} {B : Nat → Prop} {oo : Nat} (hG : ∀ S : zS, va_D B (wX cI cZ ad S)) (hoo : ¬ B oo) (hfl : l.stackTraces = false) (S : zS) (g : Nat → Int64) (key : Nat) (hO : zOK S) (hk : key < 32) : zMW l yL_committedSum wsL_committedSum ({ frames := 8, cells := 1, slots := 6, locals := 123 } : Room) [.ref (ad 0), .int (nI (key)), .ref (oo)] D (zT3 cI cZ cJ) (zBo B oo) (wO cI cZ cJ ad oo) (S, g) (fun (r : Int32) (u : zS × (Nat → Int64)) => r = nI 0 ∧ u.1 = S ∧ (u.2 0 = ((S 20 key)).toInt64)) := by
  refine zMW_of (cc := cL_committedSum) (maxL := 4) (ret := (some .int)) (hh := [(0, 9, 12, 13)]) (by decide) rfl (Nat.le_of_ble_eq_true rfl) ?_
  intro pg en s mm below meth cd hx hb hr hml hown hts hlk hex hF hP0 ls hl
  have hl : lv_has ls 4 [(0, .ref (ad 0)), (1, .int (nI (key))), (2, .ref (oo))] := hl
  have hR : zO D cI cZ cJ ad oo B s s.heap [] S g := zO_of hP0
  refine lv_aload_n hx hb dL_committedSum_0 rfl (lv_at hl 2 rfl) ?_
  refine lv_iconst (v := (nI 0)) hx hb dL_committedSum_1 (by decide) ?_
  refine lv_aload_n hx hb dL_committedSum_2 rfl (lv_at hl 0 rfl) ?_
  refine lv_iload_n hx hb dL_committedSum_3 rfl (lv_at hl 1 rfl) ?_
  refine z_oV_i (As := [.int (nI (key))]) (rest := [.int (nI 0), .ref oo]) ⟨hx, hb, hml, hown, hts⟩ hF hoo hR (c_X4_committedSum_ok hG S key hO hk) (cwV 1 hts gL_committedSum_X4_committedSum rfl rfl rfl (by decide +kernel) ⟨Nat.le_of_ble_eq_true rfl, Nat.le_of_ble_eq_true rfl⟩) rfl hl rfl (Nat.le_of_ble_eq_true rfl) (by decide) dL_committedSum_4 (fun r S1 H locs hp hR => ?_)
  obtain ⟨hr1, hs⟩ := hp
  subst r
  subst S1
  refine lv_i2l (v := ((S 20 key)).toInt64) hx hb dL_committedSum_7 rfl ?_
  refine z_o_last hx hb hF hR hG hoo dL_committedSum_8 (fun H locs g1 hg hR => ?_)
  refine lv_goto (tgt := 15) hx hb dL_committedSum_9 (by decide) ?_
  refine lv_iconst (v := (nI 0)) hx hb dL_committedSum_15 (by decide) ?_
  refine W.widen (k := 1) (n := 6) (by decide) (by decide) ?_
  exact z_o_iret hx hb hr hlk hF hR dL_committedSum_16 ⟨rfl, rfl, hg⟩
set_option maxHeartbeats 4000000 in
set_option maxRecDepth 100000 in
theorem o_sumInChannels_e1 {l : Launch} {D : va_G} {cI cZ cJ : ClassId} {ad : Nat → Nat} {B : Nat → Prop} {oo : Nat} (hG : ∀ S : zS, va_D B (wX cI cZ ad S)) (hoo : ¬ B oo) (hfl : l.stackTraces = false) (S : zS) (g : Nat → Int64) (x : Int32) (hO : zOK S) (hxb : zbad x 32) : zMW l yL_sumInChannels wsL_sumInChannels ({ frames := 8, cells := 1, slots := 6, locals := 123 } : Room) [.ref (ad 0), .int (x), .ref (oo)] D (zT3 cI cZ cJ) (zBo B oo) (wO cI cZ cJ ad oo) (S, g) (fun (r : Int32) (u : zS × (Nat → Int64)) => r = nI 1 ∧ u.1 = S) := by
  refine zMW_of (cc := cL_sumInChannels) (maxL := 4) (ret := (some .int)) (hh := [(0, 9, 12, 13)]) (by decide) rfl (Nat.le_of_ble_eq_true rfl) ?_
  intro pg en s mm below meth cd hx hb hr hml hown hts hlk hex hF hP0 ls hl
  have hl : lv_has ls 4 [(0, .ref (ad 0)), (1, .int (x)), (2, .ref (oo))] := hl
  have hR : zO D cI cZ cJ ad oo B s s.heap [] S g := zO_of hP0
  refine lv_aload_n hx hb dL_sumInChannels_0 rfl (lv_at hl 2 rfl) ?_
  refine lv_iconst (v := (nI 0)) hx hb dL_sumInChannels_1 (by decide) ?_
  refine lv_aload_n hx hb dL_sumInChannels_2 rfl (lv_at hl 0 rfl) ?_
  refine lv_iload_n hx hb dL_sumInChannels_3 rfl (lv_at hl 1 rfl) ?_
  refine z_oV_x (As := [.int (x)]) (rest := [.int (nI 0), .ref oo]) ⟨hx, hb, hml, hown, hts⟩ hF hoo hR (c_X4_sumInChannels_e1 hG hfl S x hO hxb) (cwV 1 hts gL_sumInChannels_X4_sumInChannels rfl rfl rfl (by decide +kernel) ⟨Nat.le_of_ble_eq_true rfl, Nat.le_of_ble_eq_true rfl⟩) rfl hl rfl (Nat.le_of_ble_eq_true rfl) (by decide) dL_sumInChannels_4 (fun E ce q9 H locs hp hR h1 h2 h3 => ?_)
  subst hp
  refine vx_catch (own := RL) (name := zIO) hown [] ⟨0, 9, 12, 13⟩ [] (by rw [hex]; rfl) (fun _ h => absurd h List.not_mem_nil) (by decide) (by decide) (hts (.classLink RL 13 zIO) (by decide +kernel)) (va_Nw.use rfl (hF.2.2.2.1 _ (by decide +kernel))) h1 h2 h3 ?_
  refine lv_astore_n (lv' := [(3, .ref (q9)), (0, .ref (ad 0)), (1, .int (x)), (2, .ref (oo))]) hx hb dL_sumInChannels_12 rfl hl (by decide) rfl (fun ls hl => ?_)
  refine lv_iconst (v := (nI 1)) hx hb dL_sumInChannels_13 (by decide) ?_
  exact z_o_iret hx hb hr hlk hF hR dL_sumInChannels_14 ⟨rfl, rfl⟩
set_option maxHeartbeats 4000000 in
set_option maxRecDepth 100000 in
theorem o_sumInChannels_ok {l : Launch} {D : va_G} {cI cZ cJ : ClassId} {ad : Nat → Nat} {B : Nat → Prop} {oo : Nat} (hG : ∀ S : zS, va_D B (wX cI cZ ad S)) (hoo : ¬ B oo) (hfl : l.stackTraces = false) (S : zS) (g : Nat → Int64) (key : Nat) (hO : zOK S) (hk : key < 32) : zMW l yL_sumInChannels wsL_sumInChannels ({ frames := 8, cells := 1, slots := 6, locals := 123 } : Room) [.ref (ad 0), .int (nI (key)), .ref (oo)] D (zT3 cI cZ cJ) (zBo B oo) (wO cI cZ cJ ad oo) (S, g) (fun (r : Int32) (u : zS × (Nat → Int64)) => r = nI 0 ∧ u.1 = S ∧ (u.2 0 = ((sp_sc S key 16)).toInt64)) := by
  refine zMW_of (cc := cL_sumInChannels) (maxL := 4) (ret := (some .int)) (hh := [(0, 9, 12, 13)]) (by decide) rfl (Nat.le_of_ble_eq_true rfl) ?_
  intro pg en s mm below meth cd hx hb hr hml hown hts hlk hex hF hP0 ls hl
  have hl : lv_has ls 4 [(0, .ref (ad 0)), (1, .int (nI (key))), (2, .ref (oo))] := hl
  have hR : zO D cI cZ cJ ad oo B s s.heap [] S g := zO_of hP0
  refine lv_aload_n hx hb dL_sumInChannels_0 rfl (lv_at hl 2 rfl) ?_
  refine lv_iconst (v := (nI 0)) hx hb dL_sumInChannels_1 (by decide) ?_
  refine lv_aload_n hx hb dL_sumInChannels_2 rfl (lv_at hl 0 rfl) ?_
  refine lv_iload_n hx hb dL_sumInChannels_3 rfl (lv_at hl 1 rfl) ?_
  refine z_oV_i (As := [.int (nI (key))]) (rest := [.int (nI 0), .ref oo]) ⟨hx, hb, hml, hown, hts⟩ hF hoo hR (c_X4_sumInChannels_ok hG S key hO hk) (cwV 1 hts gL_sumInChannels_X4_sumInChannels rfl rfl rfl (by decide +kernel) ⟨Nat.le_of_ble_eq_true rfl, Nat.le_of_ble_eq_true rfl⟩) rfl hl rfl (Nat.le_of_ble_eq_true rfl) (by decide) dL_sumInChannels_4 (fun r S1 H locs hp hR => ?_)
  obtain ⟨hr1, hs⟩ := hp
  subst r
  subst S1
  refine lv_i2l (v := ((sp_sc S key 16)).toInt64) hx hb dL_sumInChannels_7 rfl ?_
  refine z_o_last hx hb hF hR hG hoo dL_sumInChannels_8 (fun H locs g1 hg hR => ?_)
  refine lv_goto (tgt := 15) hx hb dL_sumInChannels_9 (by decide) ?_
  refine lv_iconst (v := (nI 0)) hx hb dL_sumInChannels_15 (by decide) ?_
  refine W.widen (k := 1) (n := 6) (by decide) (by decide) ?_
  exact z_o_iret hx hb hr hlk hF hR dL_sumInChannels_16 ⟨rfl, rfl, hg⟩
set_option maxHeartbeats 4000000 in
set_option maxRecDepth 100000 in
theorem o_readSum_e1 {l : Launch} {D : va_G} {cI cZ cJ : ClassId} {ad : Nat → Nat} {B : Nat → Prop} {oo : Nat} (hG : ∀ S : zS, va_D B (wX cI cZ ad S)) (hoo : ¬ B oo) (hfl : l.stackTraces = false) (S : zS) (g : Nat → Int64) (x : Int32) (hO : zOK S) (hxb : zbad x 32) : zMW l yL_readSum wsL_readSum ({ frames := 8, cells := 1, slots := 6, locals := 125 } : Room) [.ref (ad 0), .int (x), .ref (oo)] D (zT3 cI cZ cJ) (zBo B oo) (wO cI cZ cJ ad oo) (S, g) (fun (r : Int32) (u : zS × (Nat → Int64)) => r = nI 1 ∧ u.1 = S) := by
  refine zMW_of (cc := cL_readSum) (maxL := 4) (ret := (some .int)) (hh := [(0, 9, 12, 13)]) (by decide) rfl (Nat.le_of_ble_eq_true rfl) ?_
  intro pg en s mm below meth cd hx hb hr hml hown hts hlk hex hF hP0 ls hl
  have hl : lv_has ls 4 [(0, .ref (ad 0)), (1, .int (x)), (2, .ref (oo))] := hl
  have hR : zO D cI cZ cJ ad oo B s s.heap [] S g := zO_of hP0
  refine lv_aload_n hx hb dL_readSum_0 rfl (lv_at hl 2 rfl) ?_
  refine lv_iconst (v := (nI 0)) hx hb dL_readSum_1 (by decide) ?_
  refine lv_aload_n hx hb dL_readSum_2 rfl (lv_at hl 0 rfl) ?_
  refine lv_iload_n hx hb dL_readSum_3 rfl (lv_at hl 1 rfl) ?_
  refine z_oV_x (As := [.int (x)]) (rest := [.int (nI 0), .ref oo]) ⟨hx, hb, hml, hown, hts⟩ hF hoo hR (c_X4_readSum_e1 hG hfl S x hO hxb) (cwV 1 hts gL_readSum_X4_readSum rfl rfl rfl (by decide +kernel) ⟨Nat.le_of_ble_eq_true rfl, Nat.le_of_ble_eq_true rfl⟩) rfl hl rfl (Nat.le_of_ble_eq_true rfl) (by decide) dL_readSum_4 (fun E ce q9 H locs hp hR h1 h2 h3 => ?_)
  subst hp
  refine vx_catch (own := RL) (name := zIO) hown [] ⟨0, 9, 12, 13⟩ [] (by rw [hex]; rfl) (fun _ h => absurd h List.not_mem_nil) (by decide) (by decide) (hts (.classLink RL 13 zIO) (by decide +kernel)) (va_Nw.use rfl (hF.2.2.2.1 _ (by decide +kernel))) h1 h2 h3 ?_
  refine lv_astore_n (lv' := [(3, .ref (q9)), (0, .ref (ad 0)), (1, .int (x)), (2, .ref (oo))]) hx hb dL_readSum_12 rfl hl (by decide) rfl (fun ls hl => ?_)
  refine lv_iconst (v := (nI 1)) hx hb dL_readSum_13 (by decide) ?_
  exact z_o_iret hx hb hr hlk hF hR dL_readSum_14 ⟨rfl, rfl⟩
set_option maxHeartbeats 4000000 in
set_option maxRecDepth 100000 in
theorem o_readSum_ok {l : Launch} {D : va_G} {cI cZ cJ : ClassId} {ad : Nat → Nat} {B : Nat → Prop} {oo : Nat} (hG : ∀ S : zS, va_D B (wX cI cZ ad S)) (hoo : ¬ B oo) (hfl : l.stackTraces = false) (S : zS) (g : Nat → Int64) (key : Nat) (hO : zOK S) (hk : key < 32) : zMW l yL_readSum wsL_readSum ({ frames := 8, cells := 1, slots := 6, locals := 125 } : Room) [.ref (ad 0), .int (nI (key)), .ref (oo)] D (zT3 cI cZ cJ) (zBo B oo) (wO cI cZ cJ ad oo) (S, g) (fun (r : Int32) (u : zS × (Nat → Int64)) => r = nI 0 ∧ u.1 = S ∧ (u.2 0 = ((sp_rs S key 4)).toInt64)) := by
  refine zMW_of (cc := cL_readSum) (maxL := 4) (ret := (some .int)) (hh := [(0, 9, 12, 13)]) (by decide) rfl (Nat.le_of_ble_eq_true rfl) ?_
  intro pg en s mm below meth cd hx hb hr hml hown hts hlk hex hF hP0 ls hl
  have hl : lv_has ls 4 [(0, .ref (ad 0)), (1, .int (nI (key))), (2, .ref (oo))] := hl
  have hR : zO D cI cZ cJ ad oo B s s.heap [] S g := zO_of hP0
  refine lv_aload_n hx hb dL_readSum_0 rfl (lv_at hl 2 rfl) ?_
  refine lv_iconst (v := (nI 0)) hx hb dL_readSum_1 (by decide) ?_
  refine lv_aload_n hx hb dL_readSum_2 rfl (lv_at hl 0 rfl) ?_
  refine lv_iload_n hx hb dL_readSum_3 rfl (lv_at hl 1 rfl) ?_
  refine z_oV_i (As := [.int (nI (key))]) (rest := [.int (nI 0), .ref oo]) ⟨hx, hb, hml, hown, hts⟩ hF hoo hR (c_X4_readSum_ok hG S key hO hk) (cwV 1 hts gL_readSum_X4_readSum rfl rfl rfl (by decide +kernel) ⟨Nat.le_of_ble_eq_true rfl, Nat.le_of_ble_eq_true rfl⟩) rfl hl rfl (Nat.le_of_ble_eq_true rfl) (by decide) dL_readSum_4 (fun r S1 H locs hp hR => ?_)
  obtain ⟨hr1, hs⟩ := hp
  subst r
  subst S1
  refine lv_i2l (v := ((sp_rs S key 4)).toInt64) hx hb dL_readSum_7 rfl ?_
  refine z_o_last hx hb hF hR hG hoo dL_readSum_8 (fun H locs g1 hg hR => ?_)
  refine lv_goto (tgt := 15) hx hb dL_readSum_9 (by decide) ?_
  refine lv_iconst (v := (nI 0)) hx hb dL_readSum_15 (by decide) ?_
  refine W.widen (k := 1) (n := 6) (by decide) (by decide) ?_
  exact z_o_iret hx hb hr hlk hF hR dL_readSum_16 ⟨rfl, rfl, hg⟩
set_option maxHeartbeats 4000000 in
set_option maxRecDepth 100000 in
theorem o_groupsOf_e1 {l : Launch} {D : va_G} {cI cZ cJ : ClassId} {ad : Nat → Nat} {B : Nat → Prop} {oo : Nat} (hG : ∀ S : zS, va_D B (wX cI cZ ad S)) (hoo : ¬ B oo) (hfl : l.stackTraces = false) (S : zS) (g : Nat → Int64) (x : Int32) (hO : zOK S) (hxb : zbad x (zn S 22 0)) : zMW l yL_groupsOf wsL_groupsOf ({ frames := 8, cells := 1, slots := 6, locals := 127 } : Room) [.ref (ad 0), .int (x), .ref (oo)] D (zT3 cI cZ cJ) (zBo B oo) (wO cI cZ cJ ad oo) (S, g) (fun (r : Int32) (u : zS × (Nat → Int64)) => r = nI 1 ∧ u.1 = S) := by
  refine zMW_of (cc := cL_groupsOf) (maxL := 4) (ret := (some .int)) (hh := [(0, 9, 12, 13)]) (by decide) rfl (Nat.le_of_ble_eq_true rfl) ?_
  intro pg en s mm below meth cd hx hb hr hml hown hts hlk hex hF hP0 ls hl
  have hl : lv_has ls 4 [(0, .ref (ad 0)), (1, .int (x)), (2, .ref (oo))] := hl
  have hR : zO D cI cZ cJ ad oo B s s.heap [] S g := zO_of hP0
  refine lv_aload_n hx hb dL_groupsOf_0 rfl (lv_at hl 2 rfl) ?_
  refine lv_iconst (v := (nI 0)) hx hb dL_groupsOf_1 (by decide) ?_
  refine lv_aload_n hx hb dL_groupsOf_2 rfl (lv_at hl 0 rfl) ?_
  refine lv_iload_n hx hb dL_groupsOf_3 rfl (lv_at hl 1 rfl) ?_
  refine z_oV_x (As := [.int (x)]) (rest := [.int (nI 0), .ref oo]) ⟨hx, hb, hml, hown, hts⟩ hF hoo hR (c_X4_groupsOf_e1 hG hfl S x hO hxb) (cwV 1 hts gL_groupsOf_X4_groupsOf rfl rfl rfl (by decide +kernel) ⟨Nat.le_of_ble_eq_true rfl, Nat.le_of_ble_eq_true rfl⟩) rfl hl rfl (Nat.le_of_ble_eq_true rfl) (by decide) dL_groupsOf_4 (fun E ce q9 H locs hp hR h1 h2 h3 => ?_)
  subst hp
  refine vx_catch (own := RL) (name := zIO) hown [] ⟨0, 9, 12, 13⟩ [] (by rw [hex]; rfl) (fun _ h => absurd h List.not_mem_nil) (by decide) (by decide) (hts (.classLink RL 13 zIO) (by decide +kernel)) (va_Nw.use rfl (hF.2.2.2.1 _ (by decide +kernel))) h1 h2 h3 ?_
  refine lv_astore_n (lv' := [(3, .ref (q9)), (0, .ref (ad 0)), (1, .int (x)), (2, .ref (oo))]) hx hb dL_groupsOf_12 rfl hl (by decide) rfl (fun ls hl => ?_)
  refine lv_iconst (v := (nI 1)) hx hb dL_groupsOf_13 (by decide) ?_
  exact z_o_iret hx hb hr hlk hF hR dL_groupsOf_14 ⟨rfl, rfl⟩
set_option maxHeartbeats 4000000 in
set_option maxRecDepth 100000 in
theorem o_groupsOf_ok {l : Launch} {D : va_G} {cI cZ cJ : ClassId} {ad : Nat → Nat} {B : Nat → Prop} {oo : Nat} (hG : ∀ S : zS, va_D B (wX cI cZ ad S)) (hoo : ¬ B oo) (hfl : l.stackTraces = false) (S : zS) (g : Nat → Int64) (w : Nat) (hO : zOK S) (hw : w < zn S 22 0) : zMW l yL_groupsOf wsL_groupsOf ({ frames := 8, cells := 1, slots := 6, locals := 127 } : Room) [.ref (ad 0), .int (nI (w)), .ref (oo)] D (zT3 cI cZ cJ) (zBo B oo) (wO cI cZ cJ ad oo) (S, g) (fun (r : Int32) (u : zS × (Nat → Int64)) => r = nI 0 ∧ u.1 = S ∧ (u.2 0 = ((nI (10 * sp_gf (zn S 22 0) w 8 + sp_go (zn S 22 0) w 8))).toInt64)) := by
  refine zMW_of (cc := cL_groupsOf) (maxL := 4) (ret := (some .int)) (hh := [(0, 9, 12, 13)]) (by decide) rfl (Nat.le_of_ble_eq_true rfl) ?_
  intro pg en s mm below meth cd hx hb hr hml hown hts hlk hex hF hP0 ls hl
  have hl : lv_has ls 4 [(0, .ref (ad 0)), (1, .int (nI (w))), (2, .ref (oo))] := hl
  have hR : zO D cI cZ cJ ad oo B s s.heap [] S g := zO_of hP0
  refine lv_aload_n hx hb dL_groupsOf_0 rfl (lv_at hl 2 rfl) ?_
  refine lv_iconst (v := (nI 0)) hx hb dL_groupsOf_1 (by decide) ?_
  refine lv_aload_n hx hb dL_groupsOf_2 rfl (lv_at hl 0 rfl) ?_
  refine lv_iload_n hx hb dL_groupsOf_3 rfl (lv_at hl 1 rfl) ?_
  refine z_oV_i (As := [.int (nI (w))]) (rest := [.int (nI 0), .ref oo]) ⟨hx, hb, hml, hown, hts⟩ hF hoo hR (c_X4_groupsOf_ok hG S w hO hw) (cwV 1 hts gL_groupsOf_X4_groupsOf rfl rfl rfl (by decide +kernel) ⟨Nat.le_of_ble_eq_true rfl, Nat.le_of_ble_eq_true rfl⟩) rfl hl rfl (Nat.le_of_ble_eq_true rfl) (by decide) dL_groupsOf_4 (fun r S1 H locs hp hR => ?_)
  obtain ⟨hr1, hs⟩ := hp
  subst r
  subst S1
  refine lv_i2l (v := ((nI (10 * sp_gf (zn S 22 0) w 8 + sp_go (zn S 22 0) w 8))).toInt64) hx hb dL_groupsOf_7 rfl ?_
  refine z_o_last hx hb hF hR hG hoo dL_groupsOf_8 (fun H locs g1 hg hR => ?_)
  refine lv_goto (tgt := 15) hx hb dL_groupsOf_9 (by decide) ?_
  refine lv_iconst (v := (nI 0)) hx hb dL_groupsOf_15 (by decide) ?_
  refine W.widen (k := 1) (n := 6) (by decide) (by decide) ?_
  exact z_o_iret hx hb hr hlk hF hR dL_groupsOf_16 ⟨rfl, rfl, hg⟩
set_option maxHeartbeats 4000000 in
set_option maxRecDepth 100000 in
theorem o_open_e1 {l : Launch} {D : va_G} {cI cZ cJ : ClassId} {ad : Nat → Nat} {B : Nat → Prop} {oo : Nat} (hG : ∀ S : zS, va_D B (wX cI cZ ad S)) (hoo : ¬ B oo) (hfl : l.stackTraces = false) (S : zS) (g : Nat → Int64) (x : Int32) (hO : zOK S) (hxb : zbad x (zn S 22 0)) : zMW l yL_open wsL_open ({ frames := 8, cells := 1, slots := 6, locals := 126 } : Room) [.ref (ad 0), .int (x), .ref (oo)] D (zT3 cI cZ cJ) (zBo B oo) (wO cI cZ cJ ad oo) (S, g) (fun (r : Int32) (u : zS × (Nat → Int64)) => r = nI 1 ∧ u.1 = S) := by
  refine zMW_of (cc := cL_open) (maxL := 4) (ret := (some .int)) (hh := [(0, 9, 12, 13)]) (by decide) rfl (Nat.le_of_ble_eq_true rfl) ?_
  intro pg en s mm below meth cd hx hb hr hml hown hts hlk hex hF hP0 ls hl
  have hl : lv_has ls 4 [(0, .ref (ad 0)), (1, .int (x)), (2, .ref (oo))] := hl
  have hR : zO D cI cZ cJ ad oo B s s.heap [] S g := zO_of hP0
  refine lv_aload_n hx hb dL_open_0 rfl (lv_at hl 2 rfl) ?_
  refine lv_iconst (v := (nI 0)) hx hb dL_open_1 (by decide) ?_
  refine lv_aload_n hx hb dL_open_2 rfl (lv_at hl 0 rfl) ?_
  refine lv_iload_n hx hb dL_open_3 rfl (lv_at hl 1 rfl) ?_
  refine z_oV_x (As := [.int (x)]) (rest := [.int (nI 0), .ref oo]) ⟨hx, hb, hml, hown, hts⟩ hF hoo hR (c_X4_open_e1 hG hfl S x hO hxb) (cwV 1 hts gL_open_X4_open rfl rfl rfl (by decide +kernel) ⟨Nat.le_of_ble_eq_true rfl, Nat.le_of_ble_eq_true rfl⟩) rfl hl rfl (Nat.le_of_ble_eq_true rfl) (by decide) dL_open_4 (fun E ce q9 H locs hp hR h1 h2 h3 => ?_)
  subst hp
  refine vx_catch (own := RL) (name := zIO) hown [] ⟨0, 9, 12, 13⟩ [] (by rw [hex]; rfl) (fun _ h => absurd h List.not_mem_nil) (by decide) (by decide) (hts (.classLink RL 13 zIO) (by decide +kernel)) (va_Nw.use rfl (hF.2.2.2.1 _ (by decide +kernel))) h1 h2 h3 ?_
  refine lv_astore_n (lv' := [(3, .ref (q9)), (0, .ref (ad 0)), (1, .int (x)), (2, .ref (oo))]) hx hb dL_open_12 rfl hl (by decide) rfl (fun ls hl => ?_)
  refine lv_iconst (v := (nI 1)) hx hb dL_open_13 (by decide) ?_
  exact z_o_iret hx hb hr hlk hF hR dL_open_14 ⟨rfl, rfl⟩
set_option maxHeartbeats 4000000 in
set_option maxRecDepth 100000 in
theorem o_open_ok {l : Launch} {D : va_G} {cI cZ cJ : ClassId} {ad : Nat → Nat} {B : Nat → Prop} {oo : Nat} (hG : ∀ S : zS, va_D B (wX cI cZ ad S)) (hoo : ¬ B oo) (hfl : l.stackTraces = false) (S : zS) (g : Nat → Int64) (w : Nat) (hO : zOK S) (hw : w < zn S 22 0) : zMW l yL_open wsL_open ({ frames := 8, cells := 1, slots := 6, locals := 126 } : Room) [.ref (ad 0), .int (nI (w)), .ref (oo)] D (zT3 cI cZ cJ) (zBo B oo) (wO cI cZ cJ ad oo) (S, g) (fun (r : Int32) (u : zS × (Nat → Int64)) => r = nI 0 ∧ u.1 = S ∧ (u.2 0 = ((sp_op S w 32)).toInt64)) := by
  refine zMW_of (cc := cL_open) (maxL := 4) (ret := (some .int)) (hh := [(0, 9, 12, 13)]) (by decide) rfl (Nat.le_of_ble_eq_true rfl) ?_
  intro pg en s mm below meth cd hx hb hr hml hown hts hlk hex hF hP0 ls hl
  have hl : lv_has ls 4 [(0, .ref (ad 0)), (1, .int (nI (w))), (2, .ref (oo))] := hl
  have hR : zO D cI cZ cJ ad oo B s s.heap [] S g := zO_of hP0
  refine lv_aload_n hx hb dL_open_0 rfl (lv_at hl 2 rfl) ?_
  refine lv_iconst (v := (nI 0)) hx hb dL_open_1 (by decide) ?_
  refine lv_aload_n hx hb dL_open_2 rfl (lv_at hl 0 rfl) ?_
  refine lv_iload_n hx hb dL_open_3 rfl (lv_at hl 1 rfl) ?_
  refine z_oV_i (As := [.int (nI (w))]) (rest := [.int (nI 0), .ref oo]) ⟨hx, hb, hml, hown, hts⟩ hF hoo hR (c_X4_open_ok hG S w hO hw) (cwV 1 hts gL_open_X4_open rfl rfl rfl (by decide +kernel) ⟨Nat.le_of_ble_eq_true rfl, Nat.le_of_ble_eq_true rfl⟩) rfl hl rfl (Nat.le_of_ble_eq_true rfl) (by decide) dL_open_4 (fun r S1 H locs hp hR => ?_)
  obtain ⟨hr1, hs⟩ := hp
  subst r
  subst S1
  refine lv_i2l (v := ((sp_op S w 32)).toInt64) hx hb dL_open_7 rfl ?_
  refine z_o_last hx hb hF hR hG hoo dL_open_8 (fun H locs g1 hg hR => ?_)
  refine lv_goto (tgt := 15) hx hb dL_open_9 (by decide) ?_
  refine lv_iconst (v := (nI 0)) hx hb dL_open_15 (by decide) ?_
  refine W.widen (k := 1) (n := 6) (by decide) (by decide) ?_
  exact z_o_iret hx hb hr hlk hF hR dL_open_16 ⟨rfl, rfl, hg⟩
set_option maxHeartbeats 4000000 in
set_option maxRecDepth 100000 in
theorem o_sealed_e1 {l : Launch} {D : va_G} {cI cZ cJ : ClassId} {ad : Nat → Nat} {B : Nat → Prop} {oo : Nat} (hG : ∀ S : zS, va_D B (wX cI cZ ad S)) (hoo : ¬ B oo) (hfl : l.stackTraces = false) (S : zS) (g : Nat → Int64) (x : Int32) (hO : zOK S) (hxb : zbad x (zn S 22 0)) : zMW l yL_sealed wsL_sealed ({ frames := 8, cells := 1, slots := 6, locals := 124 } : Room) [.ref (ad 0), .int (x), .ref (oo)] D (zT3 cI cZ cJ) (zBo B oo) (wO cI cZ cJ ad oo) (S, g) (fun (r : Int32) (u : zS × (Nat → Int64)) => r = nI 1 ∧ u.1 = S) := by
  refine zMW_of (cc := cL_sealed) (maxL := 4) (ret := (some .int)) (hh := [(0, 9, 12, 13)]) (by decide) rfl (Nat.le_of_ble_eq_true rfl) ?_
  intro pg en s mm below meth cd hx hb hr hml hown hts hlk hex hF hP0 ls hl
  have hl : lv_has ls 4 [(0, .ref (ad 0)), (1, .int (x)), (2, .ref (oo))] := hl
  have hR : zO D cI cZ cJ ad oo B s s.heap [] S g := zO_of hP0
  refine lv_aload_n hx hb dL_sealed_0 rfl (lv_at hl 2 rfl) ?_
  refine lv_iconst (v := (nI 0)) hx hb dL_sealed_1 (by decide) ?_
  refine lv_aload_n hx hb dL_sealed_2 rfl (lv_at hl 0 rfl) ?_
  refine lv_iload_n hx hb dL_sealed_3 rfl (lv_at hl 1 rfl) ?_
  refine z_oV_x (As := [.int (x)]) (rest := [.int (nI 0), .ref oo]) ⟨hx, hb, hml, hown, hts⟩ hF hoo hR (c_X4_sealed_e1 hG hfl S x hO hxb) (cwV 1 hts gL_sealed_X4_sealed rfl rfl rfl (by decide +kernel) ⟨Nat.le_of_ble_eq_true rfl, Nat.le_of_ble_eq_true rfl⟩) rfl hl rfl (Nat.le_of_ble_eq_true rfl) (by decide) dL_sealed_4 (fun E ce q9 H locs hp hR h1 h2 h3 => ?_)
  subst hp
  refine vx_catch (own := RL) (name := zIO) hown [] ⟨0, 9, 12, 13⟩ [] (by rw [hex]; rfl) (fun _ h => absurd h List.not_mem_nil) (by decide) (by decide) (hts (.classLink RL 13 zIO) (by decide +kernel)) (va_Nw.use rfl (hF.2.2.2.1 _ (by decide +kernel))) h1 h2 h3 ?_
  refine lv_astore_n (lv' := [(3, .ref (q9)), (0, .ref (ad 0)), (1, .int (x)), (2, .ref (oo))]) hx hb dL_sealed_12 rfl hl (by decide) rfl (fun ls hl => ?_)
  refine lv_iconst (v := (nI 1)) hx hb dL_sealed_13 (by decide) ?_
  exact z_o_iret hx hb hr hlk hF hR dL_sealed_14 ⟨rfl, rfl⟩
set_option maxHeartbeats 4000000 in
set_option maxRecDepth 100000 in
theorem o_sealed_ok {l : Launch} {D : va_G} {cI cZ cJ : ClassId} {ad : Nat → Nat} {B : Nat → Prop} {oo : Nat} (hG : ∀ S : zS, va_D B (wX cI cZ ad S)) (hoo : ¬ B oo) (hfl : l.stackTraces = false) (S : zS) (g : Nat → Int64) (w : Nat) (hO : zOK S) (hw : w < zn S 22 0) : zMW l yL_sealed wsL_sealed ({ frames := 8, cells := 1, slots := 6, locals := 124 } : Room) [.ref (ad 0), .int (nI (w)), .ref (oo)] D (zT3 cI cZ cJ) (zBo B oo) (wO cI cZ cJ ad oo) (S, g) (fun (r : Int32) (u : zS × (Nat → Int64)) => r = nI 0 ∧ u.1 = S ∧ (u.2 0 = ((S 21 w)).toInt64)) := by
  refine zMW_of (cc := cL_sealed) (maxL := 4) (ret := (some .int)) (hh := [(0, 9, 12, 13)]) (by decide) rfl (Nat.le_of_ble_eq_true rfl) ?_
  intro pg en s mm below meth cd hx hb hr hml hown hts hlk hex hF hP0 ls hl
  have hl : lv_has ls 4 [(0, .ref (ad 0)), (1, .int (nI (w))), (2, .ref (oo))] := hl
  have hR : zO D cI cZ cJ ad oo B s s.heap [] S g := zO_of hP0
  refine lv_aload_n hx hb dL_sealed_0 rfl (lv_at hl 2 rfl) ?_
  refine lv_iconst (v := (nI 0)) hx hb dL_sealed_1 (by decide) ?_
  refine lv_aload_n hx hb dL_sealed_2 rfl (lv_at hl 0 rfl) ?_
  refine lv_iload_n hx hb dL_sealed_3 rfl (lv_at hl 1 rfl) ?_
  refine z_oV_i (As := [.int (nI (w))]) (rest := [.int (nI 0), .ref oo]) ⟨hx, hb, hml, hown, hts⟩ hF hoo hR (c_X4_sealed_ok hG S w hO hw) (cwV 1 hts gL_sealed_X4_sealed rfl rfl rfl (by decide +kernel) ⟨Nat.le_of_ble_eq_true rfl, Nat.le_of_ble_eq_true rfl⟩) rfl hl rfl (Nat.le_of_ble_eq_true rfl) (by decide) dL_sealed_4 (fun r S1 H locs hp hR => ?_)
  obtain ⟨hr1, hs⟩ := hp
  subst r
  subst S1
  refine lv_i2l (v := ((S 21 w)).toInt64) hx hb dL_sealed_7 rfl ?_
  refine z_o_last hx hb hF hR hG hoo dL_sealed_8 (fun H locs g1 hg hR => ?_)
  refine lv_goto (tgt := 15) hx hb dL_sealed_9 (by decide) ?_
  refine lv_iconst (v := (nI 0)) hx hb dL_sealed_15 (by decide) ?_
  refine W.widen (k := 1) (n := 6) (by decide) (by decide) ?_
  exact z_o_iret hx hb hr hlk hF hR dL_sealed_16 ⟨rfl, rfl, hg⟩
set_option maxHeartbeats 4000000 in
set_option maxRecDepth 100000 in
theorem o_hasSent_e1 {l : Launch} {D : va_G} {cI cZ cJ : ClassId} {ad : Nat → Nat} {B : Nat → Prop} {oo : Nat} (hG : ∀ S : zS, va_D B (wX cI cZ ad S)) (hoo : ¬ B oo) (hfl : l.stackTraces = false) (S : zS) (g : Nat → Int64) (x : Int32) (hO : zOK S) (hxb : zbad x 4) : zMW l yL_hasSent wsL_hasSent ({ frames := 8, cells := 1, slots := 6, locals := 123 } : Room) [.ref (ad 0), .int (x), .ref (oo)] D (zT3 cI cZ cJ) (zBo B oo) (wO cI cZ cJ ad oo) (S, g) (fun (r : Int32) (u : zS × (Nat → Int64)) => r = nI 1 ∧ u.1 = S) := by
  refine zMW_of (cc := cL_hasSent) (maxL := 4) (ret := (some .int)) (hh := [(0, 16, 19, 13)]) (by decide) rfl (Nat.le_of_ble_eq_true rfl) ?_
  intro pg en s mm below meth cd hx hb hr hml hown hts hlk hex hF hP0 ls hl
  have hl : lv_has ls 4 [(0, .ref (ad 0)), (1, .int (x)), (2, .ref (oo))] := hl
  have hR : zO D cI cZ cJ ad oo B s s.heap [] S g := zO_of hP0
  refine lv_aload_n hx hb dL_hasSent_0 rfl (lv_at hl 2 rfl) ?_
  refine lv_iconst (v := (nI 0)) hx hb dL_hasSent_1 (by decide) ?_
  refine lv_aload_n hx hb dL_hasSent_2 rfl (lv_at hl 0 rfl) ?_
  refine lv_iload_n hx hb dL_hasSent_3 rfl (lv_at hl 1 rfl) ?_
  refine z_oV_x (As := [.int (x)]) (rest := [.int (nI 0), .ref oo]) ⟨hx, hb, hml, hown, hts⟩ hF hoo hR (c_X4_hasSent_e1 hG hfl S x hO hxb) (cwV 1 hts gL_hasSent_X4_hasSent rfl rfl rfl (by decide +kernel) ⟨Nat.le_of_ble_eq_true rfl, Nat.le_of_ble_eq_true rfl⟩) rfl hl rfl (Nat.le_of_ble_eq_true rfl) (by decide) dL_hasSent_4 (fun E ce q9 H locs hp hR h1 h2 h3 => ?_)
  subst hp
  refine vx_catch (own := RL) (name := zIO) hown [] ⟨0, 16, 19, 13⟩ [] (by rw [hex]; rfl) (fun _ h => absurd h List.not_mem_nil) (by decide) (by decide) (hts (.classLink RL 13 zIO) (by decide +kernel)) (va_Nw.use rfl (hF.2.2.2.1 _ (by decide +kernel))) h1 h2 h3 ?_
  refine lv_astore_n (lv' := [(3, .ref (q9)), (0, .ref (ad 0)), (1, .int (x)), (2, .ref (oo))]) hx hb dL_hasSent_19 rfl hl (by decide) rfl (fun ls hl => ?_)
  refine lv_iconst (v := (nI 1)) hx hb dL_hasSent_20 (by decide) ?_
  exact z_o_iret hx hb hr hlk hF hR dL_hasSent_21 ⟨rfl, rfl⟩
set_option maxHeartbeats 4000000 in
set_option maxRecDepth 100000 in
theorem o_hasSent_ok {l : Launch} {D : va_G} {cI cZ cJ : ClassId} {ad : Nat → Nat} {B : Nat → Prop} {oo : Nat} (hG : ∀ S : zS, va_D B (wX cI cZ ad S)) (hoo : ¬ B oo) (hfl : l.stackTraces = false) (S : zS) (g : Nat → Int64) (p : Nat) (hO : zOK S) (hp : p < 4) : zMW l yL_hasSent wsL_hasSent ({ frames := 8, cells := 1, slots := 6, locals := 123 } : Room) [.ref (ad 0), .int (nI (p)), .ref (oo)] D (zT3 cI cZ cJ) (zBo B oo) (wO cI cZ cJ ad oo) (S, g) (fun (r : Int32) (u : zS × (Nat → Int64)) => r = nI 0 ∧ u.1 = S ∧ (((¬ S 22 2 = (-1) ∧ S 4 p = nI 1) ∧ u.2 0 = 1) ∨ (¬ (¬ S 22 2 = (-1) ∧ S 4 p = nI 1) ∧ u.2 0 = 0))) := by
  refine zMW_of (cc := cL_hasSent) (maxL := 4) (ret := (some .int)) (hh := [(0, 16, 19, 13)]) (by decide) rfl (Nat.le_of_ble_eq_true rfl) ?_
  intro pg en s mm below meth cd hx hb hr hml hown hts hlk hex hF hP0 ls hl
  have hl : lv_has ls 4 [(0, .ref (ad 0)), (1, .int (nI (p))), (2, .ref (oo))] := hl
  have hR : zO D cI cZ cJ ad oo B s s.heap [] S g := zO_of hP0
  refine lv_aload_n hx hb dL_hasSent_0 rfl (lv_at hl 2 rfl) ?_
  refine lv_iconst (v := (nI 0)) hx hb dL_hasSent_1 (by decide) ?_
  refine lv_aload_n hx hb dL_hasSent_2 rfl (lv_at hl 0 rfl) ?_
  refine lv_iload_n hx hb dL_hasSent_3 rfl (lv_at hl 1 rfl) ?_
  refine z_oV_i (As := [.int (nI (p))]) (rest := [.int (nI 0), .ref oo]) ⟨hx, hb, hml, hown, hts⟩ hF hoo hR (c_X4_hasSent_ok hG S p hO hp) (cwV 1 hts gL_hasSent_X4_hasSent rfl rfl rfl (by decide +kernel) ⟨Nat.le_of_ble_eq_true rfl, Nat.le_of_ble_eq_true rfl⟩) rfl hl rfl (Nat.le_of_ble_eq_true rfl) (by decide) dL_hasSent_4 (fun r S1 H locs hp hR => ?_)
  obtain ⟨hp, hs⟩ := hp
  subst S1
  rcases hp with ⟨hq, hr1⟩ | ⟨hq, hr1⟩
  · subst r
    refine z_if_eq_n (tgt := 14) hx hb dL_hasSent_7 (by decide) (by decide) (fun h => absurd h (by decide)) (fun _ => ?_)
    refine lv_lconst (v := 1) hx hb dL_hasSent_10 (by decide) ?_
    refine lv_goto (tgt := 15) hx hb dL_hasSent_11 (by decide) ?_
    refine z_o_last hx hb hF hR hG hoo dL_hasSent_15 (fun H locs g1 hg hR => ?_)
    refine lv_goto (tgt := 22) hx hb dL_hasSent_16 (by decide) ?_
    refine lv_iconst (v := (nI 0)) hx hb dL_hasSent_22 (by decide) ?_
    refine W.widen (k := 1) (n := 6) (by decide) (by decide) ?_
    exact z_o_iret hx hb hr hlk hF hR dL_hasSent_23 ⟨rfl, rfl, Or.inl ⟨hq, hg⟩⟩
  · subst r
    refine z_if_eq_n (tgt := 14) hx hb dL_hasSent_7 (by decide) (by decide) (fun _ => ?_) (fun h => absurd rfl h)
    refine lv_lconst (v := 0) hx hb dL_hasSent_14 (by decide) ?_
    refine z_o_last hx hb hF hR hG hoo dL_hasSent_15 (fun H locs g1 hg hR => ?_)
    refine lv_goto (tgt := 22) hx hb dL_hasSent_16 (by decide) ?_
    refine lv_iconst (v := (nI 0)) hx hb dL_hasSent_22 (by decide) ?_
    refine W.widen (k := 1) (n := 6) (by decide) (by decide) ?_
    exact z_o_iret hx hb hr hlk hF hR dL_hasSent_23 ⟨rfl, rfl, Or.inr ⟨hq, hg⟩⟩
