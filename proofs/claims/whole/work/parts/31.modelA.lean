set_option maxHeartbeats 4000000 in
set_option maxRecDepth 100000 in
/--  -/
theorem k_Model_thrown (l : Launch) (dC : Nat → ClassId) (dI : Nat → Nat → Nat) (cI cJ cZ : ClassId) (md : Nat) (th : Int32) (n : Nat) (bw : Nat) (bf : Nat) (bv : Nat) (bz : Nat) (kn : Nat) (bsp : Nat) (bdt : Nat) (bdr : Nat) (bhd : Nat) (bmv : Nat) (bod : Nat) (pl : Nat) (cr : Nat) (tk : Nat)  (sz : Nat) : zMi l zy_M_thrown zw_M_thrown ({ frames := 0, cells := 0, slots := 0, locals := 0 }) [.ref md] (dC, dI) zcl [(cI, .int), (cJ, .long), (cZ, .boolean)] [(md, .inr (3, [.int th, .int (nI n), .ref bw, .ref bf, .ref bv, .ref bz, .int (nI kn), .ref bsp, .ref bdt, .ref bdr, .ref bhd, .ref bmv, .ref bod, .int (nI pl), .int (nI cr), .int (nI tk)]))] sz (fun (r : Int32) (u : va_W) => r = th ∧ u = [(md, .inr (3, [.int th, .int (nI n), .ref bw, .ref bf, .ref bv, .ref bz, .int (nI kn), .ref bsp, .ref bdt, .ref bdr, .ref bhd, .ref bmv, .ref bod, .int (nI pl), .int (nI cr), .int (nI tk)]))]) := by
  refine z_ofi (cc := zc_M_thrown) (maxL := 1) (ret := (some .int)) (by decide) rfl (Nat.le_of_ble_eq_true rfl) ?_
  intro p e s m below meth c A ls hx hb hr hml hown htz hlocks hin hA hP hK hD hS hl
  have hown : s.vm.findClass zR_M = some m.cls := hown
  have hl : lv_has ls 1 [(0, .ref md)] := hl
  refine lv_aload_n hx hb zd_M_thrown_0 rfl (lv_at hl 0 rfl) ?_
  refine va_get (D := (dC, dI)) (ci := 3) (v := .int th) (C := zR_M) (T := zF_M) (N := 16) hx hb htz zi_M hown hK hP 0 rfl rfl 0 (by decide) (htz _ zq_459) (fun _ h9 => h9) rfl zd_M_thrown_1 ?_
  exact z_iret hx hb hr hlocks hP hK hD hS zd_M_thrown_4 (by decide) (by decide) ⟨rfl, rfl⟩
set_option maxHeartbeats 4000000 in
set_option maxRecDepth 100000 in
/--  -/
theorem k_Model_fails_0 (l : Launch) (dC : Nat → ClassId) (dI : Nat → Nat → Nat) (cI cJ cZ : ClassId) (md : Nat) (th : Int32) (n : Nat) (bw : Nat) (bf : Nat) (bv : Nat) (bz : Nat) (kn : Nat) (bsp : Nat) (bdt : Nat) (bdr : Nat) (bhd : Nat) (bmv : Nat) (bod : Nat) (pl : Nat) (cr : Nat) (tk : Nat)  (sz : Nat) : zMi l zy_M_fails zw_M_fails ({ frames := 0, cells := 0, slots := 0, locals := 0 }) [.ref md, .int (nI 0), .int (nI 0)] (dC, dI) zcl [(cI, .int), (cJ, .long), (cZ, .boolean)] [(md, .inr (3, [.int th, .int (nI n), .ref bw, .ref bf, .ref bv, .ref bz, .int (nI kn), .ref bsp, .ref bdt, .ref bdr, .ref bhd, .ref bmv, .ref bod, .int (nI pl), .int (nI cr), .int (nI tk)]))] sz (fun (r : Int32) (u : va_W) => r = nI 0 ∧ u = [(md, .inr (3, [.int (nI 0), .int (nI n), .ref bw, .ref bf, .ref bv, .ref bz, .int (nI kn), .ref bsp, .ref bdt, .ref bdr, .ref bhd, .ref bmv, .ref bod, .int (nI pl), .int (nI cr), .int (nI tk)]))]) := by
  refine z_ofi (cc := zc_M_fails) (maxL := 3) (ret := (some .boolean)) (by decide) rfl (Nat.le_of_ble_eq_true rfl) ?_
  intro p e s m below meth c A ls hx hb hr hml hown htz hlocks hin hA hP hK hD hS hl
  have hown : s.vm.findClass zR_M = some m.cls := hown
  have hl : lv_has ls 3 [(0, .ref md), (1, .int (nI 0)), (2, .int (nI 0))] := hl
  refine lv_aload_n hx hb zd_M_fails_0 rfl (lv_at hl 0 rfl) ?_
  refine lv_iload_n hx hb zd_M_fails_1 rfl (lv_at hl 1 rfl) ?_
  refine lv_if_eq (tgt := 9) hx hb zd_M_fails_2 (by decide) (fun _ => ?_) (fun c1_ => absurd (by decide) c1_)
  refine lv_iload_n hx hb zd_M_fails_9 rfl (lv_at hl 2 rfl) ?_
  refine lv_if_eq (tgt := 17) hx hb zd_M_fails_10 (by decide) (fun _ => ?_) (fun c2_ => absurd (by decide) c2_)
  refine lv_iconst (v := (nI 0)) hx hb zd_M_fails_17 (by decide) ?_
  refine va_put (D := (dC, dI)) (ci := 3) (v := .int (nI 0)) (ty := .int) (C := zR_M) (T := zF_M) (N := 16) hx hb htz zi_M zt_M zt_M_ok zn_M hown hK hP hD hS 0 rfl rfl 0 (by decide) (htz _ zq_459) (fun _ h9 => h9) rfl (by decide +kernel) rfl rfl (Nat.le_of_ble_eq_true rfl) zd_M_fails_18 (fun H locs hP hD hS => ?_)
  have hP : va_P (dC, dI) zcl [(md, .inr (3, [.int (nI 0), .int (nI n), .ref bw, .ref bf, .ref bv, .ref bz, .int (nI kn), .ref bsp, .ref bdt, .ref bdr, .ref bhd, .ref bmv, .ref bod, .int (nI pl), .int (nI cr), .int (nI tk)]))] H := hP
  have hD : va_D A [(md, .inr (3, [.int (nI 0), .int (nI n), .ref bw, .ref bf, .ref bv, .ref bz, .int (nI kn), .ref bsp, .ref bdt, .ref bdr, .ref bhd, .ref bmv, .ref bod, .int (nI pl), .int (nI cr), .int (nI tk)]))] := hD
  refine lv_aload_n hx hb zd_M_fails_21 rfl (lv_at hl 0 rfl) ?_
  refine va_get (D := (dC, dI)) (ci := 3) (v := .int (nI 0)) (C := zR_M) (T := zF_M) (N := 16) hx hb htz zi_M hown hK hP 0 rfl rfl 0 (by decide) (htz _ zq_459) (fun _ h9 => h9) rfl zd_M_fails_22 ?_
  refine lv_if_le (tgt := 32) hx hb zd_M_fails_25 (by decide) (fun _ => ?_) (fun c3_ => absurd (by decide) c3_)
  refine lv_iconst (v := (nI 0)) hx hb zd_M_fails_32 (by decide) ?_
  exact z_zret hx hb hr hlocks hP hK hD hS zd_M_fails_33 (by decide) (by decide) rfl ⟨rfl, rfl⟩
set_option maxHeartbeats 4000000 in
set_option maxRecDepth 100000 in
/--  -/
theorem k_Model_fails_1 (l : Launch) (dC : Nat → ClassId) (dI : Nat → Nat → Nat) (cI cJ cZ : ClassId) (md : Nat) (th : Int32) (n : Nat) (bw : Nat) (bf : Nat) (bv : Nat) (bz : Nat) (kn : Nat) (bsp : Nat) (bdt : Nat) (bdr : Nat) (bhd : Nat) (bmv : Nat) (bod : Nat) (pl : Nat) (cr : Nat) (tk : Nat) (bb : Int32)  (sz : Nat) : zMi l zy_M_fails zw_M_fails ({ frames := 0, cells := 0, slots := 0, locals := 0 }) [.ref md, .int (nI 1), .int bb] (dC, dI) zcl [(cI, .int), (cJ, .long), (cZ, .boolean)] [(md, .inr (3, [.int th, .int (nI n), .ref bw, .ref bf, .ref bv, .ref bz, .int (nI kn), .ref bsp, .ref bdt, .ref bdr, .ref bhd, .ref bmv, .ref bod, .int (nI pl), .int (nI cr), .int (nI tk)]))] sz (fun (r : Int32) (u : va_W) => r = nI 1 ∧ u = [(md, .inr (3, [.int (nI 1), .int (nI n), .ref bw, .ref bf, .ref bv, .ref bz, .int (nI kn), .ref bsp, .ref bdt, .ref bdr, .ref bhd, .ref bmv, .ref bod, .int (nI pl), .int (nI cr), .int (nI tk)]))]) := by
  refine z_ofi (cc := zc_M_fails) (maxL := 3) (ret := (some .boolean)) (by decide) rfl (Nat.le_of_ble_eq_true rfl) ?_
  intro p e s m below meth c A ls hx hb hr hml hown htz hlocks hin hA hP hK hD hS hl
  have hown : s.vm.findClass zR_M = some m.cls := hown
  have hl : lv_has ls 3 [(0, .ref md), (1, .int (nI 1)), (2, .int bb)] := hl
  refine lv_aload_n hx hb zd_M_fails_0 rfl (lv_at hl 0 rfl) ?_
  refine lv_iload_n hx hb zd_M_fails_1 rfl (lv_at hl 1 rfl) ?_
  refine lv_if_eq (tgt := 9) hx hb zd_M_fails_2 (by decide) (fun c1_ => absurd c1_ (by decide)) (fun _ => ?_)
  refine lv_iconst (v := (nI 1)) hx hb zd_M_fails_5 (by decide) ?_
  refine lv_goto (tgt := 18) hx hb zd_M_fails_6 (by decide) ?_
  refine va_put (D := (dC, dI)) (ci := 3) (v := .int (nI 1)) (ty := .int) (C := zR_M) (T := zF_M) (N := 16) hx hb htz zi_M zt_M zt_M_ok zn_M hown hK hP hD hS 0 rfl rfl 0 (by decide) (htz _ zq_459) (fun _ h9 => h9) rfl (by decide +kernel) rfl rfl (Nat.le_of_ble_eq_true rfl) zd_M_fails_18 (fun H locs hP hD hS => ?_)
  have hP : va_P (dC, dI) zcl [(md, .inr (3, [.int (nI 1), .int (nI n), .ref bw, .ref bf, .ref bv, .ref bz, .int (nI kn), .ref bsp, .ref bdt, .ref bdr, .ref bhd, .ref bmv, .ref bod, .int (nI pl), .int (nI cr), .int (nI tk)]))] H := hP
  have hD : va_D A [(md, .inr (3, [.int (nI 1), .int (nI n), .ref bw, .ref bf, .ref bv, .ref bz, .int (nI kn), .ref bsp, .ref bdt, .ref bdr, .ref bhd, .ref bmv, .ref bod, .int (nI pl), .int (nI cr), .int (nI tk)]))] := hD
  refine lv_aload_n hx hb zd_M_fails_21 rfl (lv_at hl 0 rfl) ?_
  refine va_get (D := (dC, dI)) (ci := 3) (v := .int (nI 1)) (C := zR_M) (T := zF_M) (N := 16) hx hb htz zi_M hown hK hP 0 rfl rfl 0 (by decide) (htz _ zq_459) (fun _ h9 => h9) rfl zd_M_fails_22 ?_
  refine lv_if_le (tgt := 32) hx hb zd_M_fails_25 (by decide) (fun c2_ => absurd c2_ (by decide)) (fun _ => ?_)
  refine lv_iconst (v := (nI 1)) hx hb zd_M_fails_28 (by decide) ?_
  refine lv_goto (tgt := 33) hx hb zd_M_fails_29 (by decide) ?_
  exact z_zret hx hb hr hlocks hP hK hD hS zd_M_fails_33 (by decide) (by decide) rfl ⟨rfl, rfl⟩
set_option maxHeartbeats 4000000 in
set_option maxRecDepth 100000 in
/--  -/
theorem k_Model_fails_2 (l : Launch) (dC : Nat → ClassId) (dI : Nat → Nat → Nat) (cI cJ cZ : ClassId) (md : Nat) (th : Int32) (n : Nat) (bw : Nat) (bf : Nat) (bv : Nat) (bz : Nat) (kn : Nat) (bsp : Nat) (bdt : Nat) (bdr : Nat) (bhd : Nat) (bmv : Nat) (bod : Nat) (pl : Nat) (cr : Nat) (tk : Nat)  (sz : Nat) : zMi l zy_M_fails zw_M_fails ({ frames := 0, cells := 0, slots := 0, locals := 0 }) [.ref md, .int (nI 0), .int (nI 1)] (dC, dI) zcl [(cI, .int), (cJ, .long), (cZ, .boolean)] [(md, .inr (3, [.int th, .int (nI n), .ref bw, .ref bf, .ref bv, .ref bz, .int (nI kn), .ref bsp, .ref bdt, .ref bdr, .ref bhd, .ref bmv, .ref bod, .int (nI pl), .int (nI cr), .int (nI tk)]))] sz (fun (r : Int32) (u : va_W) => r = nI 1 ∧ u = [(md, .inr (3, [.int (nI 2), .int (nI n), .ref bw, .ref bf, .ref bv, .ref bz, .int (nI kn), .ref bsp, .ref bdt, .ref bdr, .ref bhd, .ref bmv, .ref bod, .int (nI pl), .int (nI cr), .int (nI tk)]))]) := by
  refine z_ofi (cc := zc_M_fails) (maxL := 3) (ret := (some .boolean)) (by decide) rfl (Nat.le_of_ble_eq_true rfl) ?_
  intro p e s m below meth c A ls hx hb hr hml hown htz hlocks hin hA hP hK hD hS hl
  have hown : s.vm.findClass zR_M = some m.cls := hown
  have hl : lv_has ls 3 [(0, .ref md), (1, .int (nI 0)), (2, .int (nI 1))] := hl
  refine lv_aload_n hx hb zd_M_fails_0 rfl (lv_at hl 0 rfl) ?_
  refine lv_iload_n hx hb zd_M_fails_1 rfl (lv_at hl 1 rfl) ?_
  refine lv_if_eq (tgt := 9) hx hb zd_M_fails_2 (by decide) (fun _ => ?_) (fun c1_ => absurd (by decide) c1_)
  refine lv_iload_n hx hb zd_M_fails_9 rfl (lv_at hl 2 rfl) ?_
  refine lv_if_eq (tgt := 17) hx hb zd_M_fails_10 (by decide) (fun c2_ => absurd c2_ (by decide)) (fun _ => ?_)
  refine lv_iconst (v := (nI 2)) hx hb zd_M_fails_13 (by decide) ?_
  refine lv_goto (tgt := 18) hx hb zd_M_fails_14 (by decide) ?_
  refine va_put (D := (dC, dI)) (ci := 3) (v := .int (nI 2)) (ty := .int) (C := zR_M) (T := zF_M) (N := 16) hx hb htz zi_M zt_M zt_M_ok zn_M hown hK hP hD hS 0 rfl rfl 0 (by decide) (htz _ zq_459) (fun _ h9 => h9) rfl (by decide +kernel) rfl rfl (Nat.le_of_ble_eq_true rfl) zd_M_fails_18 (fun H locs hP hD hS => ?_)
  have hP : va_P (dC, dI) zcl [(md, .inr (3, [.int (nI 2), .int (nI n), .ref bw, .ref bf, .ref bv, .ref bz, .int (nI kn), .ref bsp, .ref bdt, .ref bdr, .ref bhd, .ref bmv, .ref bod, .int (nI pl), .int (nI cr), .int (nI tk)]))] H := hP
  have hD : va_D A [(md, .inr (3, [.int (nI 2), .int (nI n), .ref bw, .ref bf, .ref bv, .ref bz, .int (nI kn), .ref bsp, .ref bdt, .ref bdr, .ref bhd, .ref bmv, .ref bod, .int (nI pl), .int (nI cr), .int (nI tk)]))] := hD
  refine lv_aload_n hx hb zd_M_fails_21 rfl (lv_at hl 0 rfl) ?_
  refine va_get (D := (dC, dI)) (ci := 3) (v := .int (nI 2)) (C := zR_M) (T := zF_M) (N := 16) hx hb htz zi_M hown hK hP 0 rfl rfl 0 (by decide) (htz _ zq_459) (fun _ h9 => h9) rfl zd_M_fails_22 ?_
  refine lv_if_le (tgt := 32) hx hb zd_M_fails_25 (by decide) (fun c3_ => absurd c3_ (by decide)) (fun _ => ?_)
  refine lv_iconst (v := (nI 1)) hx hb zd_M_fails_28 (by decide) ?_
  refine lv_goto (tgt := 33) hx hb zd_M_fails_29 (by decide) ?_
  exact z_zret hx hb hr hlocks hP hK hD hS zd_M_fails_33 (by decide) (by decide) rfl ⟨rfl, rfl⟩
set_option maxHeartbeats 4000000 in
set_option maxRecDepth 100000 in
/--  -/
theorem k_Model_isShare (l : Launch) (dC : Nat → ClassId) (dI : Nat → Nat → Nat) (cI cJ cZ : ClassId) (md : Nat) (th : Int32) (n : Nat) (bw : Nat) (bf : Nat) (bv : Nat) (bz : Nat) (kn : Nat) (bsp : Nat) (bdt : Nat) (bdr : Nat) (bhd : Nat) (bmv : Nat) (bod : Nat) (pl : Nat) (cr : Nat) (tk : Nat) (sh : Int32) (hn : n ≤ 16) (sz : Nat) : zMi l zy_M_isShare zw_M_isShare ({ frames := 0, cells := 0, slots := 0, locals := 0 }) [.ref md, .int sh] (dC, dI) zcl [(cI, .int), (cJ, .long), (cZ, .boolean)] [(md, .inr (3, [.int th, .int (nI n), .ref bw, .ref bf, .ref bv, .ref bz, .int (nI kn), .ref bsp, .ref bdt, .ref bdr, .ref bhd, .ref bmv, .ref bod, .int (nI pl), .int (nI cr), .int (nI tk)]))] sz (fun (r : Int32) (u : va_W) => (∃ (j : Nat), r = nI 1 ∧ u = [(md, .inr (3, [.int th, .int (nI n), .ref bw, .ref bf, .ref bv, .ref bz, .int (nI kn), .ref bsp, .ref bdt, .ref bdr, .ref bhd, .ref bmv, .ref bod, .int (nI pl), .int (nI cr), .int (nI tk)]))] ∧ j < n ∧ sh = nI j) ∨ (r = nI 0 ∧ u = [(md, .inr (3, [.int th, .int (nI n), .ref bw, .ref bf, .ref bv, .ref bz, .int (nI kn), .ref bsp, .ref bdt, .ref bdr, .ref bhd, .ref bmv, .ref bod, .int (nI pl), .int (nI cr), .int (nI tk)]))] ∧ (∀ j, j < n → sh ≠ nI j))) := by
  refine z_ofi (cc := zc_M_isShare) (maxL := 2) (ret := (some .boolean)) (by decide) rfl (Nat.le_of_ble_eq_true rfl) ?_
  intro p e s m below meth c A ls hx hb hr hml hown htz hlocks hin hA hP hK hD hS hl
  have hown : s.vm.findClass zR_M = some m.cls := hown
  have hl : lv_has ls 2 [(0, .ref md), (1, .int sh)] := hl
  refine lv_iload_n hx hb zd_M_isShare_0 rfl (lv_at hl 1 rfl) ?_
  refine lv_if_lt (tgt := 16) hx hb zd_M_isShare_1 (by decide) (fun c1_ => ?_) (fun c1_ => ?_)
  · have hno9 := z_neg (n := n) (by omega) c1_
    refine lv_iconst (v := (nI 0)) hx hb zd_M_isShare_16 (by decide) ?_
    exact z_zret hx hb hr hlocks hP hK hD hS zd_M_isShare_17 (by decide) (by decide) rfl (Or.inr ⟨rfl, rfl, hno9⟩)
  · have h0_ := c1_
    refine lv_iload_n hx hb zd_M_isShare_4 rfl (lv_at hl 1 rfl) ?_
    refine lv_aload_n hx hb zd_M_isShare_5 rfl (lv_at hl 0 rfl) ?_
    refine va_get (D := (dC, dI)) (ci := 3) (v := .int (nI n)) (C := zR_M) (T := zF_M) (N := 16) hx hb htz zi_M hown hK hP 0 rfl rfl 1 (by decide) (htz _ zq_460) (fun _ h9 => h9) rfl zd_M_isShare_6 ?_
    refine lv_icmp_ge (tgt := 16) hx hb zd_M_isShare_9 (by decide) (fun c2_ => ?_) (fun c2_ => ?_)
    · have hno9 := z_big (n := n) (by omega) c2_
      refine lv_iconst (v := (nI 0)) hx hb zd_M_isShare_16 (by decide) ?_
      exact z_zret hx hb hr hlocks hP hK hD hS zd_M_isShare_17 (by decide) (by decide) rfl (Or.inr ⟨rfl, rfl, hno9⟩)
    · obtain ⟨j9, hj9, ej9⟩ := z_has (n := n) (by omega) h0_ c2_
      refine lv_iconst (v := (nI 1)) hx hb zd_M_isShare_12 (by decide) ?_
      refine lv_goto (tgt := 17) hx hb zd_M_isShare_13 (by decide) ?_
      exact z_zret hx hb hr hlocks hP hK hD hS zd_M_isShare_17 (by decide) (by decide) rfl (Or.inl ⟨j9, rfl, rfl, hj9, ej9⟩)
set_option maxHeartbeats 4000000 in
set_option maxRecDepth 100000 in
/--  -/
theorem k_Model_isBehind_k (l : Launch) (dC : Nat → ClassId) (dI : Nat → Nat → Nat) (cI cJ cZ : ClassId) (md : Nat) (th : Int32) (n : Nat) (bw : Nat) (bf : Nat) (bv : Nat) (bz : Nat) (kn : Nat) (bsp : Nat) (bdt : Nat) (bdr : Nat) (bhd : Nat) (bmv : Nat) (bod : Nat) (pl : Nat) (cr : Nat) (tk : Nat) (se : Nat → Int32) (dt : Nat → Int32) (x : Nat) (hx16 : x ≤ 16) (sz : Nat) : zMi l zy_M_isBehind zw_M_isBehind ({ frames := 0, cells := 0, slots := 0, locals := 0 }) [.ref md, .int (nI x)] (dC, dI) zcl [(cI, .int), (cJ, .long), (cZ, .boolean)] [(md, .inr (3, [.int th, .int (nI n), .ref bw, .ref bf, .ref bv, .ref bz, .int (nI kn), .ref bsp, .ref bdt, .ref bdr, .ref bhd, .ref bmv, .ref bod, .int (nI pl), .int (nI cr), .int (nI tk)])), (bz, .inl (cZ, 16, .inl se)), (bdt, .inl (cI, 16, .inl dt))] sz (fun (r : Int32) (u : va_W) => (r = nI 1 ∧ u = [(md, .inr (3, [.int th, .int (nI n), .ref bw, .ref bf, .ref bv, .ref bz, .int (nI kn), .ref bsp, .ref bdt, .ref bdr, .ref bhd, .ref bmv, .ref bod, .int (nI pl), .int (nI cr), .int (nI tk)])), (bz, .inl (cZ, 16, .inl se)), (bdt, .inl (cI, 16, .inl dt))] ∧ (∃ q, q < x ∧ zsd se dt q)) ∨ (r = nI 0 ∧ u = [(md, .inr (3, [.int th, .int (nI n), .ref bw, .ref bf, .ref bv, .ref bz, .int (nI kn), .ref bsp, .ref bdt, .ref bdr, .ref bhd, .ref bmv, .ref bod, .int (nI pl), .int (nI cr), .int (nI tk)])), (bz, .inl (cZ, 16, .inl se)), (bdt, .inl (cI, 16, .inl dt))] ∧ (∀ q, q < x → ¬ zsd se dt q))) := by
  refine z_ofi (cc := zc_M_isBehind) (maxL := 4) (ret := (some .boolean)) (by decide) rfl (Nat.le_of_ble_eq_true rfl) ?_
  intro p e s m below meth c A ls hx hb hr hml hown htz hlocks hin hA hP hK hD hS hl
  have hown : s.vm.findClass zR_M = some m.cls := hown
  have hl : lv_has ls 4 [(0, .ref md), (1, .int (nI x))] := hl
  refine lv_iconst (v := (nI 0)) hx hb zd_M_isBehind_0 (by decide) ?_
  refine lv_istore_n (lv' := [(2, .int (nI 0)), (0, .ref md), (1, .int (nI x))]) hx hb zd_M_isBehind_1 rfl hl (by decide) rfl (fun ls hl => ?_)
  refine lv_iconst (v := (nI 0)) hx hb zd_M_isBehind_2 (by decide) ?_
  refine lv_istore_n (lv' := [(3, .int (nI 0)), (2, .int (nI 0)), (0, .ref md), (1, .int (nI x))]) hx hb zd_M_isBehind_3 rfl hl (by decide) rfl (fun ls hl => ?_)
  have lp4 : ∀ (fuel : Nat) (k : Nat) (b : Nat) (H : Heap) (locs : List Loc) (ls : Array Slot), (k ≤ x) → ((b = 1 ∧ ∃ q, q < k ∧ zsd se dt q) ∨ (b = 0 ∧ ∀ q, q < k → ¬ zsd se dt q)) → x - k < fuel → va_P (dC, dI) zcl [(md, .inr (3, [.int th, .int (nI n), .ref bw, .ref bf, .ref bv, .ref bz, .int (nI kn), .ref bsp, .ref bdt, .ref bdr, .ref bhd, .ref bmv, .ref bod, .int (nI pl), .int (nI cr), .int (nI tk)])), (bz, .inl (cZ, 16, .inl se)), (bdt, .inl (cI, 16, .inl dt))] H → va_D A [(md, .inr (3, [.int th, .int (nI n), .ref bw, .ref bf, .ref bv, .ref bz, .int (nI kn), .ref bsp, .ref bdt, .ref bdr, .ref bhd, .ref bmv, .ref bod, .int (nI pl), .int (nI cr), .int (nI tk)])), (bz, .inl (cZ, 16, .inl se)), (bdt, .inl (cI, 16, .inl dt))] → va_S A s.heap H locs → lv_has ls 4 [(3, .int (nI k)), (2, .int (nI b)), (0, .ref md), (1, .int (nI x))] → W p l e ({ frames := 0, cells := 0, slots := 0, locals := 0 } : Room) s m [.ref md, .int (nI x)].toArray below meth c H locs 0 0 (MQ below (va_Qi (fun (r : Int32) (u : va_W) => (r = nI 1 ∧ u = [(md, .inr (3, [.int th, .int (nI n), .ref bw, .ref bf, .ref bv, .ref bz, .int (nI kn), .ref bsp, .ref bdt, .ref bdr, .ref bhd, .ref bmv, .ref bod, .int (nI pl), .int (nI cr), .int (nI tk)])), (bz, .inl (cZ, 16, .inl se)), (bdt, .inl (cI, 16, .inl dt))] ∧ (∃ q, q < x ∧ zsd se dt q)) ∨ (r = nI 0 ∧ u = [(md, .inr (3, [.int th, .int (nI n), .ref bw, .ref bf, .ref bv, .ref bz, .int (nI kn), .ref bsp, .ref bdt, .ref bdr, .ref bhd, .ref bmv, .ref bod, .int (nI pl), .int (nI cr), .int (nI tk)])), (bz, .inl (cZ, 16, .inl se)), (bdt, .inl (cI, 16, .inl dt))] ∧ (∀ q, q < x → ¬ zsd se dt q))) (zAt (dC, dI) zcl [(cI, .int), (cJ, .long), (cZ, .boolean)] A) A) [.ref md, .int (nI x)].toArray s 0 0 A) (F0 m 4 ls []) := by
    intro fuel
    induction fuel with
    | zero => intro k b H locs ls hk hmk hf; exact absurd hf (Nat.not_lt_zero _)
    | succ fuel ih =>
      intro k b H locs ls hk hmk hf hP hD hS hl
      refine lv_iload_n hx hb zd_M_isBehind_4 rfl (lv_at hl 0 rfl) ?_
      refine lv_iload_n hx hb zd_M_isBehind_5 rfl (lv_at hl 3 rfl) ?_
      refine lv_icmp_ge (tgt := 43) hx hb zd_M_isBehind_6 (by decide) (fun c1_ => ?_) (fun c1_ => ?_)
      · have hk2 : k = x := Nat.le_antisymm hk (Nat.le_of_not_lt (fun h => nI_ge h (by omega) c1_))
        rw [hk2] at hmk
        rcases hmk with ⟨rfl, hE⟩ | ⟨rfl, hN⟩
        · have hP : va_P (dC, dI) zcl [(md, .inr (3, [.int th, .int (nI n), .ref bw, .ref bf, .ref bv, .ref bz, .int (nI kn), .ref bsp, .ref bdt, .ref bdr, .ref bhd, .ref bmv, .ref bod, .int (nI pl), .int (nI cr), .int (nI tk)])), (bz, .inl (cZ, 16, .inl se)), (bdt, .inl (cI, 16, .inl dt))] H := hP
          have hD : va_D A [(md, .inr (3, [.int th, .int (nI n), .ref bw, .ref bf, .ref bv, .ref bz, .int (nI kn), .ref bsp, .ref bdt, .ref bdr, .ref bhd, .ref bmv, .ref bod, .int (nI pl), .int (nI cr), .int (nI tk)])), (bz, .inl (cZ, 16, .inl se)), (bdt, .inl (cI, 16, .inl dt))] := hD
          refine lv_iload_n hx hb zd_M_isBehind_43 rfl (lv_at hl 1 rfl) ?_
          exact z_zret hx hb hr hlocks hP hK hD hS zd_M_isBehind_44 (by decide) (by decide) rfl (Or.inl ⟨rfl, rfl, hE⟩)
        · have hP : va_P (dC, dI) zcl [(md, .inr (3, [.int th, .int (nI n), .ref bw, .ref bf, .ref bv, .ref bz, .int (nI kn), .ref bsp, .ref bdt, .ref bdr, .ref bhd, .ref bmv, .ref bod, .int (nI pl), .int (nI cr), .int (nI tk)])), (bz, .inl (cZ, 16, .inl se)), (bdt, .inl (cI, 16, .inl dt))] H := hP
          have hD : va_D A [(md, .inr (3, [.int th, .int (nI n), .ref bw, .ref bf, .ref bv, .ref bz, .int (nI kn), .ref bsp, .ref bdt, .ref bdr, .ref bhd, .ref bmv, .ref bod, .int (nI pl), .int (nI cr), .int (nI tk)])), (bz, .inl (cZ, 16, .inl se)), (bdt, .inl (cI, 16, .inl dt))] := hD
          refine lv_iload_n hx hb zd_M_isBehind_43 rfl (lv_at hl 1 rfl) ?_
          exact z_zret hx hb hr hlocks hP hK hD hS zd_M_isBehind_44 (by decide) (by decide) rfl (Or.inr ⟨rfl, rfl, hN⟩)
      · have hk2 : k < x := Nat.lt_of_not_le (fun h => c1_ (nI_le h (by omega)))
        rcases hmk with ⟨rfl, hE⟩ | ⟨rfl, hN⟩
        · have hP : va_P (dC, dI) zcl [(md, .inr (3, [.int th, .int (nI n), .ref bw, .ref bf, .ref bv, .ref bz, .int (nI kn), .ref bsp, .ref bdt, .ref bdr, .ref bhd, .ref bmv, .ref bod, .int (nI pl), .int (nI cr), .int (nI tk)])), (bz, .inl (cZ, 16, .inl se)), (bdt, .inl (cI, 16, .inl dt))] H := hP
          have hD : va_D A [(md, .inr (3, [.int th, .int (nI n), .ref bw, .ref bf, .ref bv, .ref bz, .int (nI kn), .ref bsp, .ref bdt, .ref bdr, .ref bhd, .ref bmv, .ref bod, .int (nI pl), .int (nI cr), .int (nI tk)])), (bz, .inl (cZ, 16, .inl se)), (bdt, .inl (cI, 16, .inl dt))] := hD
          refine lv_iload_n hx hb zd_M_isBehind_9 rfl (lv_at hl 1 rfl) ?_
          refine lv_if_ne (tgt := 31) hx hb zd_M_isBehind_10 (by decide) (fun _ => ?_) (fun c2_ => absurd c2_ (by decide))
          refine lv_iconst (v := (nI 1)) hx hb zd_M_isBehind_31 (by decide) ?_
          refine lv_goto (tgt := 36) hx hb zd_M_isBehind_32 (by decide) ?_
          refine lv_istore_n (lv' := [(2, .int (nI 1)), (3, .int (nI k)), (0, .ref md), (1, .int (nI x))]) hx hb zd_M_isBehind_36 rfl hl (by decide) rfl (fun ls hl => ?_)
          refine lv_iinc (v := (nI (k + 1))) (lv' := [(3, .int (nI (k + 1))), (2, .int (nI 1)), (0, .ref md), (1, .int (nI x))]) hx hb zd_M_isBehind_37 hl (k := 1) rfl (nI_1 k) (by decide) rfl (fun ls hl => ?_)
          refine lv_goto (tgt := 4) hx hb zd_M_isBehind_40 (by decide) ?_
          exact ih (k + 1) 1 _ _ _ (by omega) (Or.inl ⟨rfl, z_ex_up hE⟩) (by omega) hP hD hS hl
        · have hP : va_P (dC, dI) zcl [(md, .inr (3, [.int th, .int (nI n), .ref bw, .ref bf, .ref bv, .ref bz, .int (nI kn), .ref bsp, .ref bdt, .ref bdr, .ref bhd, .ref bmv, .ref bod, .int (nI pl), .int (nI cr), .int (nI tk)])), (bz, .inl (cZ, 16, .inl se)), (bdt, .inl (cI, 16, .inl dt))] H := hP
          have hD : va_D A [(md, .inr (3, [.int th, .int (nI n), .ref bw, .ref bf, .ref bv, .ref bz, .int (nI kn), .ref bsp, .ref bdt, .ref bdr, .ref bhd, .ref bmv, .ref bod, .int (nI pl), .int (nI cr), .int (nI tk)])), (bz, .inl (cZ, 16, .inl se)), (bdt, .inl (cI, 16, .inl dt))] := hD
          refine lv_iload_n hx hb zd_M_isBehind_9 rfl (lv_at hl 1 rfl) ?_
          refine lv_if_ne (tgt := 31) hx hb zd_M_isBehind_10 (by decide) (fun c3_ => absurd (by decide) c3_) (fun _ => ?_)
          refine lv_aload_n hx hb zd_M_isBehind_13 rfl (lv_at hl 2 rfl) ?_
          refine va_get (D := (dC, dI)) (ci := 3) (v := .ref bz) (C := zR_M) (T := zF_M) (N := 16) hx hb htz zi_M hown hK hP 0 rfl rfl 5 (by decide) (htz _ zq_464) (fun _ h9 => h9) rfl zd_M_isBehind_14 ?_
          refine lv_iload_n hx hb zd_M_isBehind_17 rfl (lv_at hl 0 rfl) ?_
          refine z_zald hx hb hK hP 1 2 rfl rfl (j := k) (by omega) (by decide) zd_M_isBehind_18 ?_
          refine lv_if_eq (tgt := 35) hx hb zd_M_isBehind_19 (by decide) (fun c4_ => ?_) (fun c4_ => ?_)
          · have hq : ¬ zsd se dt k := fun h => h.1 c4_
            refine lv_iconst (v := (nI 0)) hx hb zd_M_isBehind_35 (by decide) ?_
            refine lv_istore_n (lv' := [(2, .int (nI 0)), (3, .int (nI k)), (0, .ref md), (1, .int (nI x))]) hx hb zd_M_isBehind_36 rfl hl (by decide) rfl (fun ls hl => ?_)
            refine lv_iinc (v := (nI (k + 1))) (lv' := [(3, .int (nI (k + 1))), (2, .int (nI 0)), (0, .ref md), (1, .int (nI x))]) hx hb zd_M_isBehind_37 hl (k := 1) rfl (nI_1 k) (by decide) rfl (fun ls hl => ?_)
            refine lv_goto (tgt := 4) hx hb zd_M_isBehind_40 (by decide) ?_
            exact ih (k + 1) 0 _ _ _ (by omega) (Or.inr ⟨rfl, z_all_up hN hq⟩) (by omega) hP hD hS hl
          · have hs1 := c4_
            refine lv_aload_n hx hb zd_M_isBehind_22 rfl (lv_at hl 2 rfl) ?_
            refine va_get (D := (dC, dI)) (ci := 3) (v := .ref bdt) (C := zR_M) (T := zF_M) (N := 16) hx hb htz zi_M hown hK hP 0 rfl rfl 8 (by decide) (htz _ zq_467) (fun _ h9 => h9) rfl zd_M_isBehind_23 ?_
            refine lv_iload_n hx hb zd_M_isBehind_26 rfl (lv_at hl 0 rfl) ?_
            refine z_iald hx hb hK hP 2 0 rfl rfl (j := k) (by omega) (by decide) zd_M_isBehind_27 ?_
            refine lv_if_le (tgt := 35) hx hb zd_M_isBehind_28 (by decide) (fun c5_ => ?_) (fun c5_ => ?_)
            · have hq : ¬ zsd se dt k := fun h => z_nlt c5_ h.2
              refine lv_iconst (v := (nI 0)) hx hb zd_M_isBehind_35 (by decide) ?_
              refine lv_istore_n (lv' := [(2, .int (nI 0)), (3, .int (nI k)), (0, .ref md), (1, .int (nI x))]) hx hb zd_M_isBehind_36 rfl hl (by decide) rfl (fun ls hl => ?_)
              refine lv_iinc (v := (nI (k + 1))) (lv' := [(3, .int (nI (k + 1))), (2, .int (nI 0)), (0, .ref md), (1, .int (nI x))]) hx hb zd_M_isBehind_37 hl (k := 1) rfl (nI_1 k) (by decide) rfl (fun ls hl => ?_)
              refine lv_goto (tgt := 4) hx hb zd_M_isBehind_40 (by decide) ?_
              exact ih (k + 1) 0 _ _ _ (by omega) (Or.inr ⟨rfl, z_all_up hN hq⟩) (by omega) hP hD hS hl
            · have hq : zsd se dt k := ⟨hs1, z_nle c5_⟩
              refine lv_iconst (v := (nI 1)) hx hb zd_M_isBehind_31 (by decide) ?_
              refine lv_goto (tgt := 36) hx hb zd_M_isBehind_32 (by decide) ?_
              refine lv_istore_n (lv' := [(2, .int (nI 1)), (3, .int (nI k)), (0, .ref md), (1, .int (nI x))]) hx hb zd_M_isBehind_36 rfl hl (by decide) rfl (fun ls hl => ?_)
              refine lv_iinc (v := (nI (k + 1))) (lv' := [(3, .int (nI (k + 1))), (2, .int (nI 1)), (0, .ref md), (1, .int (nI x))]) hx hb zd_M_isBehind_37 hl (k := 1) rfl (nI_1 k) (by decide) rfl (fun ls hl => ?_)
              refine lv_goto (tgt := 4) hx hb zd_M_isBehind_40 (by decide) ?_
              exact ih (k + 1) 1 _ _ _ (by omega) (Or.inl ⟨rfl, k, by omega, hq⟩) (by omega) hP hD hS hl
  exact lp4 _ 0 0 _ _ _ (Nat.zero_le _) (Or.inr ⟨rfl, fun q hq => absurd hq (Nat.not_lt_zero _)⟩) (Nat.lt_succ_self _) hP hD hS hl
set_option maxHeartbeats 4000000 in
set_option maxRecDepth 100000 in
/--  -/
theorem k_Model_isHeld_k (l : Launch) (dC : Nat → ClassId) (dI : Nat → Nat → Nat) (cI cJ cZ : ClassId) (md : Nat) (th : Int32) (n : Nat) (bw : Nat) (bf : Nat) (bv : Nat) (bz : Nat) (kn : Nat) (bsp : Nat) (bdt : Nat) (bdr : Nat) (bhd : Nat) (bmv : Nat) (bod : Nat) (pl : Nat) (cr : Nat) (tk : Nat) (hd : Nat → Int32) (x : Nat) (hc : cr ≤ 16) (sz : Nat) : zMi l zy_M_isHeld zw_M_isHeld ({ frames := 0, cells := 0, slots := 0, locals := 0 }) [.ref md, .int (nI x)] (dC, dI) zcl [(cI, .int), (cJ, .long), (cZ, .boolean)] [(md, .inr (3, [.int th, .int (nI n), .ref bw, .ref bf, .ref bv, .ref bz, .int (nI kn), .ref bsp, .ref bdt, .ref bdr, .ref bhd, .ref bmv, .ref bod, .int (nI pl), .int (nI cr), .int (nI tk)])), (bhd, .inl (cI, 16, .inl hd))] sz (fun (r : Int32) (u : va_W) => (r = nI 1 ∧ u = [(md, .inr (3, [.int th, .int (nI n), .ref bw, .ref bf, .ref bv, .ref bz, .int (nI kn), .ref bsp, .ref bdt, .ref bdr, .ref bhd, .ref bmv, .ref bod, .int (nI pl), .int (nI cr), .int (nI tk)])), (bhd, .inl (cI, 16, .inl hd))] ∧ (∃ q, q < cr ∧ hd q = nI x)) ∨ (r = nI 0 ∧ u = [(md, .inr (3, [.int th, .int (nI n), .ref bw, .ref bf, .ref bv, .ref bz, .int (nI kn), .ref bsp, .ref bdt, .ref bdr, .ref bhd, .ref bmv, .ref bod, .int (nI pl), .int (nI cr), .int (nI tk)])), (bhd, .inl (cI, 16, .inl hd))] ∧ (∀ q, q < cr → ¬ hd q = nI x))) := by
  refine z_ofi (cc := zc_M_isHeld) (maxL := 4) (ret := (some .boolean)) (by decide) rfl (Nat.le_of_ble_eq_true rfl) ?_
  intro p e s m below meth c A ls hx hb hr hml hown htz hlocks hin hA hP hK hD hS hl
  have hown : s.vm.findClass zR_M = some m.cls := hown
  have hl : lv_has ls 4 [(0, .ref md), (1, .int (nI x))] := hl
  refine lv_iconst (v := (nI 0)) hx hb zd_M_isHeld_0 (by decide) ?_
  refine lv_istore_n (lv' := [(2, .int (nI 0)), (0, .ref md), (1, .int (nI x))]) hx hb zd_M_isHeld_1 rfl hl (by decide) rfl (fun ls hl => ?_)
  refine lv_iconst (v := (nI 0)) hx hb zd_M_isHeld_2 (by decide) ?_
  refine lv_istore_n (lv' := [(3, .int (nI 0)), (2, .int (nI 0)), (0, .ref md), (1, .int (nI x))]) hx hb zd_M_isHeld_3 rfl hl (by decide) rfl (fun ls hl => ?_)
  have lp4 : ∀ (fuel : Nat) (k : Nat) (b : Nat) (H : Heap) (locs : List Loc) (ls : Array Slot), (k ≤ cr) → ((b = 1 ∧ ∃ q, q < k ∧ hd q = nI x) ∨ (b = 0 ∧ ∀ q, q < k → ¬ hd q = nI x)) → cr - k < fuel → va_P (dC, dI) zcl [(md, .inr (3, [.int th, .int (nI n), .ref bw, .ref bf, .ref bv, .ref bz, .int (nI kn), .ref bsp, .ref bdt, .ref bdr, .ref bhd, .ref bmv, .ref bod, .int (nI pl), .int (nI cr), .int (nI tk)])), (bhd, .inl (cI, 16, .inl hd))] H → va_D A [(md, .inr (3, [.int th, .int (nI n), .ref bw, .ref bf, .ref bv, .ref bz, .int (nI kn), .ref bsp, .ref bdt, .ref bdr, .ref bhd, .ref bmv, .ref bod, .int (nI pl), .int (nI cr), .int (nI tk)])), (bhd, .inl (cI, 16, .inl hd))] → va_S A s.heap H locs → lv_has ls 4 [(3, .int (nI k)), (2, .int (nI b)), (0, .ref md), (1, .int (nI x))] → W p l e ({ frames := 0, cells := 0, slots := 0, locals := 0 } : Room) s m [.ref md, .int (nI x)].toArray below meth c H locs 0 0 (MQ below (va_Qi (fun (r : Int32) (u : va_W) => (r = nI 1 ∧ u = [(md, .inr (3, [.int th, .int (nI n), .ref bw, .ref bf, .ref bv, .ref bz, .int (nI kn), .ref bsp, .ref bdt, .ref bdr, .ref bhd, .ref bmv, .ref bod, .int (nI pl), .int (nI cr), .int (nI tk)])), (bhd, .inl (cI, 16, .inl hd))] ∧ (∃ q, q < cr ∧ hd q = nI x)) ∨ (r = nI 0 ∧ u = [(md, .inr (3, [.int th, .int (nI n), .ref bw, .ref bf, .ref bv, .ref bz, .int (nI kn), .ref bsp, .ref bdt, .ref bdr, .ref bhd, .ref bmv, .ref bod, .int (nI pl), .int (nI cr), .int (nI tk)])), (bhd, .inl (cI, 16, .inl hd))] ∧ (∀ q, q < cr → ¬ hd q = nI x))) (zAt (dC, dI) zcl [(cI, .int), (cJ, .long), (cZ, .boolean)] A) A) [.ref md, .int (nI x)].toArray s 0 0 A) (F0 m 4 ls []) := by
    intro fuel
    induction fuel with
    | zero => intro k b H locs ls hk hmk hf; exact absurd hf (Nat.not_lt_zero _)
    | succ fuel ih =>
      intro k b H locs ls hk hmk hf hP hD hS hl
      refine lv_iload_n hx hb zd_M_isHeld_4 rfl (lv_at hl 0 rfl) ?_
      refine lv_aload_n hx hb zd_M_isHeld_5 rfl (lv_at hl 2 rfl) ?_
      refine va_get (D := (dC, dI)) (ci := 3) (v := .int (nI cr)) (C := zR_M) (T := zF_M) (N := 16) hx hb htz zi_M hown hK hP 0 rfl rfl 14 (by decide) (htz _ zq_473) (fun _ h9 => h9) rfl zd_M_isHeld_6 ?_
      refine lv_icmp_ge (tgt := 38) hx hb zd_M_isHeld_9 (by decide) (fun c1_ => ?_) (fun c1_ => ?_)
      · have hk2 : k = cr := Nat.le_antisymm hk (Nat.le_of_not_lt (fun h => nI_ge h (by omega) c1_))
        rw [hk2] at hmk
        rcases hmk with ⟨rfl, hE⟩ | ⟨rfl, hN⟩
        · have hP : va_P (dC, dI) zcl [(md, .inr (3, [.int th, .int (nI n), .ref bw, .ref bf, .ref bv, .ref bz, .int (nI kn), .ref bsp, .ref bdt, .ref bdr, .ref bhd, .ref bmv, .ref bod, .int (nI pl), .int (nI cr), .int (nI tk)])), (bhd, .inl (cI, 16, .inl hd))] H := hP
          have hD : va_D A [(md, .inr (3, [.int th, .int (nI n), .ref bw, .ref bf, .ref bv, .ref bz, .int (nI kn), .ref bsp, .ref bdt, .ref bdr, .ref bhd, .ref bmv, .ref bod, .int (nI pl), .int (nI cr), .int (nI tk)])), (bhd, .inl (cI, 16, .inl hd))] := hD
          refine lv_iload_n hx hb zd_M_isHeld_38 rfl (lv_at hl 1 rfl) ?_
          exact z_zret hx hb hr hlocks hP hK hD hS zd_M_isHeld_39 (by decide) (by decide) rfl (Or.inl ⟨rfl, rfl, hE⟩)
        · have hP : va_P (dC, dI) zcl [(md, .inr (3, [.int th, .int (nI n), .ref bw, .ref bf, .ref bv, .ref bz, .int (nI kn), .ref bsp, .ref bdt, .ref bdr, .ref bhd, .ref bmv, .ref bod, .int (nI pl), .int (nI cr), .int (nI tk)])), (bhd, .inl (cI, 16, .inl hd))] H := hP
          have hD : va_D A [(md, .inr (3, [.int th, .int (nI n), .ref bw, .ref bf, .ref bv, .ref bz, .int (nI kn), .ref bsp, .ref bdt, .ref bdr, .ref bhd, .ref bmv, .ref bod, .int (nI pl), .int (nI cr), .int (nI tk)])), (bhd, .inl (cI, 16, .inl hd))] := hD
          refine lv_iload_n hx hb zd_M_isHeld_38 rfl (lv_at hl 1 rfl) ?_
          exact z_zret hx hb hr hlocks hP hK hD hS zd_M_isHeld_39 (by decide) (by decide) rfl (Or.inr ⟨rfl, rfl, hN⟩)
      · have hk2 : k < cr := Nat.lt_of_not_le (fun h => c1_ (nI_le h (by omega)))
        rcases hmk with ⟨rfl, hE⟩ | ⟨rfl, hN⟩
        · have hP : va_P (dC, dI) zcl [(md, .inr (3, [.int th, .int (nI n), .ref bw, .ref bf, .ref bv, .ref bz, .int (nI kn), .ref bsp, .ref bdt, .ref bdr, .ref bhd, .ref bmv, .ref bod, .int (nI pl), .int (nI cr), .int (nI tk)])), (bhd, .inl (cI, 16, .inl hd))] H := hP
          have hD : va_D A [(md, .inr (3, [.int th, .int (nI n), .ref bw, .ref bf, .ref bv, .ref bz, .int (nI kn), .ref bsp, .ref bdt, .ref bdr, .ref bhd, .ref bmv, .ref bod, .int (nI pl), .int (nI cr), .int (nI tk)])), (bhd, .inl (cI, 16, .inl hd))] := hD
          refine lv_iload_n hx hb zd_M_isHeld_12 rfl (lv_at hl 1 rfl) ?_
          refine lv_if_ne (tgt := 26) hx hb zd_M_isHeld_13 (by decide) (fun _ => ?_) (fun c2_ => absurd c2_ (by decide))
          refine lv_iconst (v := (nI 1)) hx hb zd_M_isHeld_26 (by decide) ?_
          refine lv_goto (tgt := 31) hx hb zd_M_isHeld_27 (by decide) ?_
          refine lv_istore_n (lv' := [(2, .int (nI 1)), (3, .int (nI k)), (0, .ref md), (1, .int (nI x))]) hx hb zd_M_isHeld_31 rfl hl (by decide) rfl (fun ls hl => ?_)
          refine lv_iinc (v := (nI (k + 1))) (lv' := [(3, .int (nI (k + 1))), (2, .int (nI 1)), (0, .ref md), (1, .int (nI x))]) hx hb zd_M_isHeld_32 hl (k := 1) rfl (nI_1 k) (by decide) rfl (fun ls hl => ?_)
          refine lv_goto (tgt := 4) hx hb zd_M_isHeld_35 (by decide) ?_
          exact ih (k + 1) 1 _ _ _ (by omega) (Or.inl ⟨rfl, z_ex_up hE⟩) (by omega) hP hD hS hl
        · have hP : va_P (dC, dI) zcl [(md, .inr (3, [.int th, .int (nI n), .ref bw, .ref bf, .ref bv, .ref bz, .int (nI kn), .ref bsp, .ref bdt, .ref bdr, .ref bhd, .ref bmv, .ref bod, .int (nI pl), .int (nI cr), .int (nI tk)])), (bhd, .inl (cI, 16, .inl hd))] H := hP
          have hD : va_D A [(md, .inr (3, [.int th, .int (nI n), .ref bw, .ref bf, .ref bv, .ref bz, .int (nI kn), .ref bsp, .ref bdt, .ref bdr, .ref bhd, .ref bmv, .ref bod, .int (nI pl), .int (nI cr), .int (nI tk)])), (bhd, .inl (cI, 16, .inl hd))] := hD
          refine lv_iload_n hx hb zd_M_isHeld_12 rfl (lv_at hl 1 rfl) ?_
          refine lv_if_ne (tgt := 26) hx hb zd_M_isHeld_13 (by decide) (fun c3_ => absurd (by decide) c3_) (fun _ => ?_)
          refine lv_aload_n hx hb zd_M_isHeld_16 rfl (lv_at hl 2 rfl) ?_
          refine va_get (D := (dC, dI)) (ci := 3) (v := .ref bhd) (C := zR_M) (T := zF_M) (N := 16) hx hb htz zi_M hown hK hP 0 rfl rfl 10 (by decide) (htz _ zq_469) (fun _ h9 => h9) rfl zd_M_isHeld_17 ?_
          refine lv_iload_n hx hb zd_M_isHeld_20 rfl (lv_at hl 0 rfl) ?_
          refine z_iald hx hb hK hP 1 0 rfl rfl (j := k) (by omega) (by decide) zd_M_isHeld_21 ?_
          refine lv_iload_n hx hb zd_M_isHeld_22 rfl (lv_at hl 3 rfl) ?_
          refine lv_icmp_ne (tgt := 30) hx hb zd_M_isHeld_23 (by decide) (fun c4_ => ?_) (fun c4_ => ?_)
          · have hq : ¬ hd k = nI x := c4_
            refine lv_iconst (v := (nI 0)) hx hb zd_M_isHeld_30 (by decide) ?_
            refine lv_istore_n (lv' := [(2, .int (nI 0)), (3, .int (nI k)), (0, .ref md), (1, .int (nI x))]) hx hb zd_M_isHeld_31 rfl hl (by decide) rfl (fun ls hl => ?_)
            refine lv_iinc (v := (nI (k + 1))) (lv' := [(3, .int (nI (k + 1))), (2, .int (nI 0)), (0, .ref md), (1, .int (nI x))]) hx hb zd_M_isHeld_32 hl (k := 1) rfl (nI_1 k) (by decide) rfl (fun ls hl => ?_)
            refine lv_goto (tgt := 4) hx hb zd_M_isHeld_35 (by decide) ?_
            exact ih (k + 1) 0 _ _ _ (by omega) (Or.inr ⟨rfl, z_all_up hN hq⟩) (by omega) hP hD hS hl
          · have hq : hd k = nI x := c4_
            refine lv_iconst (v := (nI 1)) hx hb zd_M_isHeld_26 (by decide) ?_
            refine lv_goto (tgt := 31) hx hb zd_M_isHeld_27 (by decide) ?_
            refine lv_istore_n (lv' := [(2, .int (nI 1)), (3, .int (nI k)), (0, .ref md), (1, .int (nI x))]) hx hb zd_M_isHeld_31 rfl hl (by decide) rfl (fun ls hl => ?_)
            refine lv_iinc (v := (nI (k + 1))) (lv' := [(3, .int (nI (k + 1))), (2, .int (nI 1)), (0, .ref md), (1, .int (nI x))]) hx hb zd_M_isHeld_32 hl (k := 1) rfl (nI_1 k) (by decide) rfl (fun ls hl => ?_)
            refine lv_goto (tgt := 4) hx hb zd_M_isHeld_35 (by decide) ?_
            exact ih (k + 1) 1 _ _ _ (by omega) (Or.inl ⟨rfl, k, by omega, hq⟩) (by omega) hP hD hS hl
  exact lp4 _ 0 0 _ _ _ (Nat.zero_le _) (Or.inr ⟨rfl, fun q hq => absurd hq (Nat.not_lt_zero _)⟩) (Nat.lt_succ_self _) hP hD hS hl
set_option maxHeartbeats 4000000 in
set_option maxRecDepth 100000 in
/--  -/
theorem k_Model_waits (l : Launch) (dC : Nat → ClassId) (dI : Nat → Nat → Nat) (cI cJ cZ : ClassId) (md : Nat) (th : Int32) (n : Nat) (bw : Nat) (bf : Nat) (bv : Nat) (bz : Nat) (kn : Nat) (bsp : Nat) (bdt : Nat) (bdr : Nat) (bhd : Nat) (bmv : Nat) (bod : Nat) (pl : Nat) (cr : Nat) (tk : Nat) (se : Nat → Int32) (dt : Nat → Int32) (hd : Nat → Int32) (hn : n ≤ 16) (hc : cr ≤ 16) (sz : Nat) : zMi l zy_M_waits zw_M_waits ({ frames := 1, cells := 0, slots := 0, locals := 23 }) [.ref md] (dC, dI) zcl [(cI, .int), (cJ, .long), (cZ, .boolean)] [(md, .inr (3, [.int th, .int (nI n), .ref bw, .ref bf, .ref bv, .ref bz, .int (nI kn), .ref bsp, .ref bdt, .ref bdr, .ref bhd, .ref bmv, .ref bod, .int (nI pl), .int (nI cr), .int (nI tk)])), (bz, .inl (cZ, 16, .inl se)), (bdt, .inl (cI, 16, .inl dt)), (bhd, .inl (cI, 16, .inl hd))] sz (fun (r : Int32) (u : va_W) => (∃ (x : Nat), r = nI x ∧ u = [(md, .inr (3, [.int th, .int (nI n), .ref bw, .ref bf, .ref bv, .ref bz, .int (nI kn), .ref bsp, .ref bdt, .ref bdr, .ref bhd, .ref bmv, .ref bod, .int (nI pl), .int (nI cr), .int (nI tk)])), (bz, .inl (cZ, 16, .inl se)), (bdt, .inl (cI, 16, .inl dt)), (bhd, .inl (cI, 16, .inl hd))] ∧ x < n ∧ zwt se dt hd cr x ∧ (∀ q, q < x → ¬ zwt se dt hd cr q)) ∨ (r = (-1) ∧ u = [(md, .inr (3, [.int th, .int (nI n), .ref bw, .ref bf, .ref bv, .ref bz, .int (nI kn), .ref bsp, .ref bdt, .ref bdr, .ref bhd, .ref bmv, .ref bod, .int (nI pl), .int (nI cr), .int (nI tk)])), (bz, .inl (cZ, 16, .inl se)), (bdt, .inl (cI, 16, .inl dt)), (bhd, .inl (cI, 16, .inl hd))] ∧ (∀ q, q < n → ¬ zwt se dt hd cr q))) := by
  refine z_ofi (cc := zc_M_waits) (maxL := 2) (ret := (some .int)) (by decide) rfl (Nat.le_of_ble_eq_true rfl) ?_
  intro p e s m below meth c A ls hx hb hr hml hown htz hlocks hin hA hP hK hD hS hl
  have hown : s.vm.findClass zR_M = some m.cls := hown
  have hl : lv_has ls 2 [(0, .ref md)] := hl
  refine lv_iconst (v := (nI 0)) hx hb zd_M_waits_0 (by decide) ?_
  refine lv_istore_n (lv' := [(1, .int (nI 0)), (0, .ref md)]) hx hb zd_M_waits_1 rfl hl (by decide) rfl (fun ls hl => ?_)
  have lp2 : ∀ (fuel : Nat) (k : Nat) (H : Heap) (locs : List Loc) (ls : Array Slot), (k ≤ n) → (∀ q, q < k → ¬ zwt se dt hd cr q) → n - k < fuel → va_P (dC, dI) zcl [(md, .inr (3, [.int th, .int (nI n), .ref bw, .ref bf, .ref bv, .ref bz, .int (nI kn), .ref bsp, .ref bdt, .ref bdr, .ref bhd, .ref bmv, .ref bod, .int (nI pl), .int (nI cr), .int (nI tk)])), (bz, .inl (cZ, 16, .inl se)), (bdt, .inl (cI, 16, .inl dt)), (bhd, .inl (cI, 16, .inl hd))] H → va_D A [(md, .inr (3, [.int th, .int (nI n), .ref bw, .ref bf, .ref bv, .ref bz, .int (nI kn), .ref bsp, .ref bdt, .ref bdr, .ref bhd, .ref bmv, .ref bod, .int (nI pl), .int (nI cr), .int (nI tk)])), (bz, .inl (cZ, 16, .inl se)), (bdt, .inl (cI, 16, .inl dt)), (bhd, .inl (cI, 16, .inl hd))] → va_S A s.heap H locs → lv_has ls 2 [(1, .int (nI k)), (0, .ref md)] → W p l e ({ frames := 1, cells := 0, slots := 0, locals := 23 } : Room) s m [.ref md].toArray below meth c H locs 0 0 (MQ below (va_Qi (fun (r : Int32) (u : va_W) => (∃ (x : Nat), r = nI x ∧ u = [(md, .inr (3, [.int th, .int (nI n), .ref bw, .ref bf, .ref bv, .ref bz, .int (nI kn), .ref bsp, .ref bdt, .ref bdr, .ref bhd, .ref bmv, .ref bod, .int (nI pl), .int (nI cr), .int (nI tk)])), (bz, .inl (cZ, 16, .inl se)), (bdt, .inl (cI, 16, .inl dt)), (bhd, .inl (cI, 16, .inl hd))] ∧ x < n ∧ zwt se dt hd cr x ∧ (∀ q, q < x → ¬ zwt se dt hd cr q)) ∨ (r = (-1) ∧ u = [(md, .inr (3, [.int th, .int (nI n), .ref bw, .ref bf, .ref bv, .ref bz, .int (nI kn), .ref bsp, .ref bdt, .ref bdr, .ref bhd, .ref bmv, .ref bod, .int (nI pl), .int (nI cr), .int (nI tk)])), (bz, .inl (cZ, 16, .inl se)), (bdt, .inl (cI, 16, .inl dt)), (bhd, .inl (cI, 16, .inl hd))] ∧ (∀ q, q < n → ¬ zwt se dt hd cr q))) (zAt (dC, dI) zcl [(cI, .int), (cJ, .long), (cZ, .boolean)] A) A) [.ref md].toArray s 0 0 A) (F0 m 2 ls []) := by
    intro fuel
    induction fuel with
    | zero => intro k H locs ls hk hz hf; exact absurd hf (Nat.not_lt_zero _)
    | succ fuel ih =>
      intro k H locs ls hk hz hf hP hD hS hl
      refine lv_iload_n hx hb zd_M_waits_2 rfl (lv_at hl 0 rfl) ?_
      refine lv_aload_n hx hb zd_M_waits_3 rfl (lv_at hl 1 rfl) ?_
      refine va_get (D := (dC, dI)) (ci := 3) (v := .int (nI n)) (C := zR_M) (T := zF_M) (N := 16) hx hb htz zi_M hown hK hP 0 rfl rfl 1 (by decide) (htz _ zq_460) (fun _ h9 => h9) rfl zd_M_waits_4 ?_
      refine lv_icmp_ge (tgt := 43) hx hb zd_M_waits_7 (by decide) (fun c1_ => ?_) (fun c1_ => ?_)
      · have hk2 : k = n := Nat.le_antisymm hk (Nat.le_of_not_lt (fun h => nI_ge h (by omega) c1_))
        rw [hk2] at hz
        refine lv_iconst (v := (-1)) hx hb zd_M_waits_43 (by decide) ?_
        exact z_iret hx hb hr hlocks hP hK hD hS zd_M_waits_44 (by decide) (by decide) (Or.inr ⟨rfl, rfl, hz⟩)
      · have hk2 : k < n := Nat.lt_of_not_le (fun h => c1_ (nI_le h (by omega)))
        refine lv_aload_n hx hb zd_M_waits_10 rfl (lv_at hl 1 rfl) ?_
        refine va_get (D := (dC, dI)) (ci := 3) (v := .ref bdt) (C := zR_M) (T := zF_M) (N := 16) hx hb htz zi_M hown hK hP 0 rfl rfl 8 (by decide) (htz _ zq_467) (fun _ h9 => h9) rfl zd_M_waits_11 ?_
        refine lv_iload_n hx hb zd_M_waits_14 rfl (lv_at hl 0 rfl) ?_
        refine z_iald hx hb hK hP 2 0 rfl rfl (j := k) (by omega) (by decide) zd_M_waits_15 ?_
        refine lv_if_ne (tgt := 37) hx hb zd_M_waits_16 (by decide) (fun c2_ => ?_) (fun c2_ => ?_)
        · have hq : ¬ zwt se dt hd cr k := fun h => c2_ h.1
          refine lv_iinc (v := (nI (k + 1))) (lv' := [(1, .int (nI (k + 1))), (0, .ref md)]) hx hb zd_M_waits_37 hl (k := 0) rfl (nI_1 k) (by decide) rfl (fun ls hl => ?_)
          refine lv_goto (tgt := 2) hx hb zd_M_waits_40 (by decide) ?_
          exact ih (k + 1) _ _ _ (by omega) (z_all_up hz hq) (by omega) hP hD hS hl
        · have h1_ := c2_
          refine lv_aload_n hx hb zd_M_waits_19 rfl (lv_at hl 1 rfl) ?_
          refine lv_iload_n hx hb zd_M_waits_20 rfl (lv_at hl 0 rfl) ?_
          refine z_Vi (As := [.int (nI k)]) (rest := []) (wc := [(md, .inr (3, [.int th, .int (nI n), .ref bw, .ref bf, .ref bv, .ref bz, .int (nI kn), .ref bsp, .ref bdt, .ref bdr, .ref bhd, .ref bmv, .ref bod, .int (nI pl), .int (nI cr), .int (nI tk)])), (bhd, .inl (cI, 16, .inl hd))]) (wr := [(bz, .inl (cZ, 16, .inl se)), (bdt, .inl (cI, 16, .inl dt))]) ⟨hx, hb, hml, hown, htz⟩ hK hP hD hS hA (k_Model_isHeld_k l dC dI cI cJ cZ md th n bw bf bv bz kn bsp bdt bdr bhd bmv bod pl cr tk hd k (by first | assumption | omega) H.size) (zcwV 1 htz zq_539 zq_536 zq_538 zp_17 zq_6 (by decide +kernel) ⟨Nat.le_of_ble_eq_true rfl, Nat.le_of_ble_eq_true rfl⟩) 0 3 rfl rfl [0, 3] [1, 2] rfl rfl rfl (by decide) rfl hl.1 rfl (Nat.le_of_ble_eq_true rfl) zd_M_waits_21 ⟨Nat.le_of_ble_eq_true rfl, Nat.le_of_ble_eq_true rfl⟩ (fun r u H locs hw hP hD hS => ?_)
          rcases hw with ⟨rfl, rfl, hb3_⟩ | ⟨rfl, rfl, hb4_⟩
          · have hP : va_P (dC, dI) zcl [(bz, .inl (cZ, 16, .inl se)), (bdt, .inl (cI, 16, .inl dt)), (md, .inr (3, [.int th, .int (nI n), .ref bw, .ref bf, .ref bv, .ref bz, .int (nI kn), .ref bsp, .ref bdt, .ref bdr, .ref bhd, .ref bmv, .ref bod, .int (nI pl), .int (nI cr), .int (nI tk)])), (bhd, .inl (cI, 16, .inl hd))] H := hP
            have hD : va_D A [(bz, .inl (cZ, 16, .inl se)), (bdt, .inl (cI, 16, .inl dt)), (md, .inr (3, [.int th, .int (nI n), .ref bw, .ref bf, .ref bv, .ref bz, .int (nI kn), .ref bsp, .ref bdt, .ref bdr, .ref bhd, .ref bmv, .ref bod, .int (nI pl), .int (nI cr), .int (nI tk)])), (bhd, .inl (cI, 16, .inl hd))] := hD
            have hq : ¬ zwt se dt hd cr k := fun h => hb3_.elim (fun v hv => h.2.1 v hv.1 hv.2)
            refine lv_if_ne (tgt := 37) hx hb zd_M_waits_24 (by decide) (fun _ => ?_) (fun c5_ => absurd c5_ (by decide))
            refine lv_iinc (v := (nI (k + 1))) (lv' := [(1, .int (nI (k + 1))), (0, .ref md)]) hx hb zd_M_waits_37 hl (k := 0) rfl (nI_1 k) (by decide) rfl (fun ls hl => ?_)
            refine lv_goto (tgt := 2) hx hb zd_M_waits_40 (by decide) ?_
            exact ih (k + 1) _ _ _ (by omega) (z_all_up hz hq) (by omega) (hP.sub [2, 0, 1, 3] rfl) (hD.sub [2, 0, 1, 3] (by decide) rfl) hS hl
          · have hP : va_P (dC, dI) zcl [(bz, .inl (cZ, 16, .inl se)), (bdt, .inl (cI, 16, .inl dt)), (md, .inr (3, [.int th, .int (nI n), .ref bw, .ref bf, .ref bv, .ref bz, .int (nI kn), .ref bsp, .ref bdt, .ref bdr, .ref bhd, .ref bmv, .ref bod, .int (nI pl), .int (nI cr), .int (nI tk)])), (bhd, .inl (cI, 16, .inl hd))] H := hP
            have hD : va_D A [(bz, .inl (cZ, 16, .inl se)), (bdt, .inl (cI, 16, .inl dt)), (md, .inr (3, [.int th, .int (nI n), .ref bw, .ref bf, .ref bv, .ref bz, .int (nI kn), .ref bsp, .ref bdt, .ref bdr, .ref bhd, .ref bmv, .ref bod, .int (nI pl), .int (nI cr), .int (nI tk)])), (bhd, .inl (cI, 16, .inl hd))] := hD
            have h2_ := hb4_
            refine lv_if_ne (tgt := 37) hx hb zd_M_waits_24 (by decide) (fun c6_ => absurd (by decide) c6_) (fun _ => ?_)
            refine lv_aload_n hx hb zd_M_waits_27 rfl (lv_at hl 1 rfl) ?_
            refine lv_iload_n hx hb zd_M_waits_28 rfl (lv_at hl 0 rfl) ?_
            refine z_Vi (As := [.int (nI k)]) (rest := []) (wc := [(md, .inr (3, [.int th, .int (nI n), .ref bw, .ref bf, .ref bv, .ref bz, .int (nI kn), .ref bsp, .ref bdt, .ref bdr, .ref bhd, .ref bmv, .ref bod, .int (nI pl), .int (nI cr), .int (nI tk)])), (bz, .inl (cZ, 16, .inl se)), (bdt, .inl (cI, 16, .inl dt))]) (wr := [(bhd, .inl (cI, 16, .inl hd))]) ⟨hx, hb, hml, hown, htz⟩ hK hP hD hS hA (k_Model_isBehind_k l dC dI cI cJ cZ md th n bw bf bv bz kn bsp bdt bdr bhd bmv bod pl cr tk se dt k (by first | assumption | omega) H.size) (zcwV 1 htz zq_543 zq_540 zq_542 zp_18 zq_6 (by decide +kernel) ⟨Nat.le_of_ble_eq_true rfl, Nat.le_of_ble_eq_true rfl⟩) 2 3 rfl rfl [2, 0, 1] [3] rfl rfl rfl (by decide) rfl hl.1 rfl (Nat.le_of_ble_eq_true rfl) zd_M_waits_29 ⟨Nat.le_of_ble_eq_true rfl, Nat.le_of_ble_eq_true rfl⟩ (fun r u H locs hw hP hD hS => ?_)
            rcases hw with ⟨rfl, rfl, hb7_⟩ | ⟨rfl, rfl, hb8_⟩
            · have hP : va_P (dC, dI) zcl [(bhd, .inl (cI, 16, .inl hd)), (md, .inr (3, [.int th, .int (nI n), .ref bw, .ref bf, .ref bv, .ref bz, .int (nI kn), .ref bsp, .ref bdt, .ref bdr, .ref bhd, .ref bmv, .ref bod, .int (nI pl), .int (nI cr), .int (nI tk)])), (bz, .inl (cZ, 16, .inl se)), (bdt, .inl (cI, 16, .inl dt))] H := hP
              have hD : va_D A [(bhd, .inl (cI, 16, .inl hd)), (md, .inr (3, [.int th, .int (nI n), .ref bw, .ref bf, .ref bv, .ref bz, .int (nI kn), .ref bsp, .ref bdt, .ref bdr, .ref bhd, .ref bmv, .ref bod, .int (nI pl), .int (nI cr), .int (nI tk)])), (bz, .inl (cZ, 16, .inl se)), (bdt, .inl (cI, 16, .inl dt))] := hD
              have hq : ¬ zwt se dt hd cr k := fun h => hb7_.elim (fun v hv => h.2.2 v hv.1 hv.2)
              refine lv_if_ne (tgt := 37) hx hb zd_M_waits_32 (by decide) (fun _ => ?_) (fun c9_ => absurd c9_ (by decide))
              refine lv_iinc (v := (nI (k + 1))) (lv' := [(1, .int (nI (k + 1))), (0, .ref md)]) hx hb zd_M_waits_37 hl (k := 0) rfl (nI_1 k) (by decide) rfl (fun ls hl => ?_)
              refine lv_goto (tgt := 2) hx hb zd_M_waits_40 (by decide) ?_
              exact ih (k + 1) _ _ _ (by omega) (z_all_up hz hq) (by omega) (hP.sub [1, 2, 3, 0] rfl) (hD.sub [1, 2, 3, 0] (by decide) rfl) hS hl
            · have hP : va_P (dC, dI) zcl [(bhd, .inl (cI, 16, .inl hd)), (md, .inr (3, [.int th, .int (nI n), .ref bw, .ref bf, .ref bv, .ref bz, .int (nI kn), .ref bsp, .ref bdt, .ref bdr, .ref bhd, .ref bmv, .ref bod, .int (nI pl), .int (nI cr), .int (nI tk)])), (bz, .inl (cZ, 16, .inl se)), (bdt, .inl (cI, 16, .inl dt))] H := hP
              have hD : va_D A [(bhd, .inl (cI, 16, .inl hd)), (md, .inr (3, [.int th, .int (nI n), .ref bw, .ref bf, .ref bv, .ref bz, .int (nI kn), .ref bsp, .ref bdt, .ref bdr, .ref bhd, .ref bmv, .ref bod, .int (nI pl), .int (nI cr), .int (nI tk)])), (bz, .inl (cZ, 16, .inl se)), (bdt, .inl (cI, 16, .inl dt))] := hD
              have h3_ := hb8_
              refine lv_if_ne (tgt := 37) hx hb zd_M_waits_32 (by decide) (fun c10_ => absurd (by decide) c10_) (fun _ => ?_)
              refine lv_iload_n hx hb zd_M_waits_35 rfl (lv_at hl 0 rfl) ?_
              have hP := hP.sub (ws' := [(md, .inr (3, [.int th, .int (nI n), .ref bw, .ref bf, .ref bv, .ref bz, .int (nI kn), .ref bsp, .ref bdt, .ref bdr, .ref bhd, .ref bmv, .ref bod, .int (nI pl), .int (nI cr), .int (nI tk)])), (bz, .inl (cZ, 16, .inl se)), (bdt, .inl (cI, 16, .inl dt)), (bhd, .inl (cI, 16, .inl hd))]) [1, 2, 3, 0] rfl
              have hD := hD.sub (ws' := [(md, .inr (3, [.int th, .int (nI n), .ref bw, .ref bf, .ref bv, .ref bz, .int (nI kn), .ref bsp, .ref bdt, .ref bdr, .ref bhd, .ref bmv, .ref bod, .int (nI pl), .int (nI cr), .int (nI tk)])), (bz, .inl (cZ, 16, .inl se)), (bdt, .inl (cI, 16, .inl dt)), (bhd, .inl (cI, 16, .inl hd))]) [1, 2, 3, 0] (by decide) rfl
              exact z_iret hx hb hr hlocks hP hK hD hS zd_M_waits_36 (by decide) (by decide) (Or.inl ⟨k, rfl, rfl, hk2, ⟨h1_, h2_, h3_⟩, hz⟩)
  exact lp2 _ 0 _ _ _ (Nat.zero_le _) (fun q hq => absurd hq (Nat.not_lt_zero _)) (Nat.lt_succ_self _) hP hD hS hl
set_option maxHeartbeats 4000000 in
set_option maxRecDepth 100000 in
/--  -/
theorem k_Model_movers_1 (l : Launch) (dC : Nat → ClassId) (dI : Nat → Nat → Nat) (cI cJ cZ : ClassId) (md : Nat) (th : Int32) (n : Nat) (bw : Nat) (bf : Nat) (bv : Nat) (bz : Nat) (kn : Nat) (bsp : Nat) (bdt : Nat) (bdr : Nat) (bhd : Nat) (bmv : Nat) (bod : Nat) (pl : Nat) (cr : Nat) (tk : Nat) (hd : Nat → Int32) (hc : cr ≤ 16) (sz : Nat) : zMi l zy_M_movers zw_M_movers ({ frames := 0, cells := 0, slots := 0, locals := 0 }) [.ref md, .int (nI 1)] (dC, dI) zcl [(cI, .int), (cJ, .long), (cZ, .boolean)] [(md, .inr (3, [.int th, .int (nI n), .ref bw, .ref bf, .ref bv, .ref bz, .int (nI kn), .ref bsp, .ref bdt, .ref bdr, .ref bhd, .ref bmv, .ref bod, .int (nI pl), .int (nI cr), .int (nI tk)])), (bhd, .inl (cI, 16, .inl hd))] sz (fun (r : Int32) (u : va_W) => r = nI cr ∧ u = [(md, .inr (3, [.int th, .int (nI n), .ref bw, .ref bf, .ref bv, .ref bz, .int (nI kn), .ref bsp, .ref bdt, .ref bdr, .ref bhd, .ref bmv, .ref bod, .int (nI pl), .int (nI cr), .int (nI tk)])), (bhd, .inl (cI, 16, .inl hd))]) := by
  refine z_ofi (cc := zc_M_movers) (maxL := 4) (ret := (some .int)) (by decide) rfl (Nat.le_of_ble_eq_true rfl) ?_
  intro p e s m below meth c A ls hx hb hr hml hown htz hlocks hin hA hP hK hD hS hl
  have hown : s.vm.findClass zR_M = some m.cls := hown
  have hl : lv_has ls 4 [(0, .ref md), (1, .int (nI 1))] := hl
  refine lv_iconst (v := (nI 0)) hx hb zd_M_movers_0 (by decide) ?_
  refine lv_istore_n (lv' := [(2, .int (nI 0)), (0, .ref md), (1, .int (nI 1))]) hx hb zd_M_movers_1 rfl hl (by decide) rfl (fun ls hl => ?_)
  refine lv_iconst (v := (nI 0)) hx hb zd_M_movers_2 (by decide) ?_
  refine lv_istore_n (lv' := [(3, .int (nI 0)), (2, .int (nI 0)), (0, .ref md), (1, .int (nI 1))]) hx hb zd_M_movers_3 rfl hl (by decide) rfl (fun ls hl => ?_)
  have lp4 : ∀ (fuel : Nat) (k : Nat) (H : Heap) (locs : List Loc) (ls : Array Slot), (k ≤ cr) → cr - k < fuel → va_P (dC, dI) zcl [(md, .inr (3, [.int th, .int (nI n), .ref bw, .ref bf, .ref bv, .ref bz, .int (nI kn), .ref bsp, .ref bdt, .ref bdr, .ref bhd, .ref bmv, .ref bod, .int (nI pl), .int (nI cr), .int (nI tk)])), (bhd, .inl (cI, 16, .inl hd))] H → va_D A [(md, .inr (3, [.int th, .int (nI n), .ref bw, .ref bf, .ref bv, .ref bz, .int (nI kn), .ref bsp, .ref bdt, .ref bdr, .ref bhd, .ref bmv, .ref bod, .int (nI pl), .int (nI cr), .int (nI tk)])), (bhd, .inl (cI, 16, .inl hd))] → va_S A s.heap H locs → lv_has ls 4 [(3, .int (nI k)), (2, .int (nI k)), (0, .ref md), (1, .int (nI 1))] → W p l e ({ frames := 0, cells := 0, slots := 0, locals := 0 } : Room) s m [.ref md, .int (nI 1)].toArray below meth c H locs 0 0 (MQ below (va_Qi (fun (r : Int32) (u : va_W) => r = nI cr ∧ u = [(md, .inr (3, [.int th, .int (nI n), .ref bw, .ref bf, .ref bv, .ref bz, .int (nI kn), .ref bsp, .ref bdt, .ref bdr, .ref bhd, .ref bmv, .ref bod, .int (nI pl), .int (nI cr), .int (nI tk)])), (bhd, .inl (cI, 16, .inl hd))]) (zAt (dC, dI) zcl [(cI, .int), (cJ, .long), (cZ, .boolean)] A) A) [.ref md, .int (nI 1)].toArray s 0 0 A) (F0 m 4 ls []) := by
    intro fuel
    induction fuel with
    | zero => intro k H locs ls hk hf; exact absurd hf (Nat.not_lt_zero _)
    | succ fuel ih =>
      intro k H locs ls hk hf hP hD hS hl
      refine lv_iload_n hx hb zd_M_movers_4 rfl (lv_at hl 0 rfl) ?_
      refine lv_aload_n hx hb zd_M_movers_5 rfl (lv_at hl 2 rfl) ?_
      refine va_get (D := (dC, dI)) (ci := 3) (v := .int (nI cr)) (C := zR_M) (T := zF_M) (N := 16) hx hb htz zi_M hown hK hP 0 rfl rfl 14 (by decide) (htz _ zq_473) (fun _ h9 => h9) rfl zd_M_movers_6 ?_
      refine lv_icmp_ge (tgt := 40) hx hb zd_M_movers_9 (by decide) (fun c1_ => ?_) (fun c1_ => ?_)
      · have hk2 : k = cr := Nat.le_antisymm hk (Nat.le_of_not_lt (fun h => nI_ge h (by omega) c1_))
        refine lv_iload_n hx hb zd_M_movers_40 rfl (lv_at hl 1 rfl) ?_
        exact z_iret hx hb hr hlocks hP hK hD hS zd_M_movers_41 (by decide) (by decide) ⟨by rw [hk2], rfl⟩
      · have hk2 : k < cr := Nat.lt_of_not_le (fun h => c1_ (nI_le h (by omega)))
        refine lv_iload_n hx hb zd_M_movers_12 rfl (lv_at hl 3 rfl) ?_
        refine lv_if_ne (tgt := 26) hx hb zd_M_movers_13 (by decide) (fun _ => ?_) (fun c2_ => absurd c2_ (by decide))
        refine lv_iload_n hx hb zd_M_movers_26 rfl (lv_at hl 1 rfl) ?_
        refine lv_iconst (v := (nI 1)) hx hb zd_M_movers_27 (by decide) ?_
        refine lv_iadd hx hb zd_M_movers_28 ?_
        refine z_topi (y := (nI (k + 1))) (nI_add k 1) ?_
        refine lv_goto (tgt := 33) hx hb zd_M_movers_29 (by decide) ?_
        refine lv_istore_n (lv' := [(2, .int (nI (k + 1))), (3, .int (nI k)), (0, .ref md), (1, .int (nI 1))]) hx hb zd_M_movers_33 rfl hl (by decide) rfl (fun ls hl => ?_)
        refine lv_iinc (v := (nI (k + 1))) (lv' := [(3, .int (nI (k + 1))), (2, .int (nI (k + 1))), (0, .ref md), (1, .int (nI 1))]) hx hb zd_M_movers_34 hl (k := 1) rfl (nI_1 k) (by decide) rfl (fun ls hl => ?_)
        refine lv_goto (tgt := 4) hx hb zd_M_movers_37 (by decide) ?_
        exact ih (k + 1) _ _ _ (by omega) (by omega) hP hD hS hl
  exact lp4 _ 0 _ _ _ (Nat.zero_le _) (Nat.lt_succ_self _) hP hD hS hl
set_option maxHeartbeats 4000000 in
set_option maxRecDepth 100000 in
/--  -/
theorem k_Model_movers_0 (l : Launch) (dC : Nat → ClassId) (dI : Nat → Nat → Nat) (cI cJ cZ : ClassId) (md : Nat) (th : Int32) (n : Nat) (bw : Nat) (bf : Nat) (bv : Nat) (bz : Nat) (kn : Nat) (bsp : Nat) (bdt : Nat) (bdr : Nat) (bhd : Nat) (bmv : Nat) (bod : Nat) (pl : Nat) (cr : Nat) (tk : Nat) (hd : Nat → Int32) (hc : cr ≤ 16) (sz : Nat) : zMi l zy_M_movers zw_M_movers ({ frames := 0, cells := 0, slots := 0, locals := 0 }) [.ref md, .int (nI 0)] (dC, dI) zcl [(cI, .int), (cJ, .long), (cZ, .boolean)] [(md, .inr (3, [.int th, .int (nI n), .ref bw, .ref bf, .ref bv, .ref bz, .int (nI kn), .ref bsp, .ref bdt, .ref bdr, .ref bhd, .ref bmv, .ref bod, .int (nI pl), .int (nI cr), .int (nI tk)])), (bhd, .inl (cI, 16, .inl hd))] sz (fun (r : Int32) (u : va_W) => r = nI (zcnt hd cr) ∧ u = [(md, .inr (3, [.int th, .int (nI n), .ref bw, .ref bf, .ref bv, .ref bz, .int (nI kn), .ref bsp, .ref bdt, .ref bdr, .ref bhd, .ref bmv, .ref bod, .int (nI pl), .int (nI cr), .int (nI tk)])), (bhd, .inl (cI, 16, .inl hd))]) := by
  refine z_ofi (cc := zc_M_movers) (maxL := 4) (ret := (some .int)) (by decide) rfl (Nat.le_of_ble_eq_true rfl) ?_
  intro p e s m below meth c A ls hx hb hr hml hown htz hlocks hin hA hP hK hD hS hl
  have hown : s.vm.findClass zR_M = some m.cls := hown
  have hl : lv_has ls 4 [(0, .ref md), (1, .int (nI 0))] := hl
  refine lv_iconst (v := (nI 0)) hx hb zd_M_movers_0 (by decide) ?_
  refine lv_istore_n (lv' := [(2, .int (nI 0)), (0, .ref md), (1, .int (nI 0))]) hx hb zd_M_movers_1 rfl hl (by decide) rfl (fun ls hl => ?_)
  refine lv_iconst (v := (nI 0)) hx hb zd_M_movers_2 (by decide) ?_
  refine lv_istore_n (lv' := [(3, .int (nI 0)), (2, .int (nI 0)), (0, .ref md), (1, .int (nI 0))]) hx hb zd_M_movers_3 rfl hl (by decide) rfl (fun ls hl => ?_)
  have lp4 : ∀ (fuel : Nat) (k : Nat) (z9 : Nat) (H : Heap) (locs : List Loc) (ls : Array Slot), (k ≤ cr) → (zcnt hd k = z9) → cr - k < fuel → va_P (dC, dI) zcl [(md, .inr (3, [.int th, .int (nI n), .ref bw, .ref bf, .ref bv, .ref bz, .int (nI kn), .ref bsp, .ref bdt, .ref bdr, .ref bhd, .ref bmv, .ref bod, .int (nI pl), .int (nI cr), .int (nI tk)])), (bhd, .inl (cI, 16, .inl hd))] H → va_D A [(md, .inr (3, [.int th, .int (nI n), .ref bw, .ref bf, .ref bv, .ref bz, .int (nI kn), .ref bsp, .ref bdt, .ref bdr, .ref bhd, .ref bmv, .ref bod, .int (nI pl), .int (nI cr), .int (nI tk)])), (bhd, .inl (cI, 16, .inl hd))] → va_S A s.heap H locs → lv_has ls 4 [(3, .int (nI k)), (2, .int (nI z9)), (0, .ref md), (1, .int (nI 0))] → W p l e ({ frames := 0, cells := 0, slots := 0, locals := 0 } : Room) s m [.ref md, .int (nI 0)].toArray below meth c H locs 0 0 (MQ below (va_Qi (fun (r : Int32) (u : va_W) => r = nI (zcnt hd cr) ∧ u = [(md, .inr (3, [.int th, .int (nI n), .ref bw, .ref bf, .ref bv, .ref bz, .int (nI kn), .ref bsp, .ref bdt, .ref bdr, .ref bhd, .ref bmv, .ref bod, .int (nI pl), .int (nI cr), .int (nI tk)])), (bhd, .inl (cI, 16, .inl hd))]) (zAt (dC, dI) zcl [(cI, .int), (cJ, .long), (cZ, .boolean)] A) A) [.ref md, .int (nI 0)].toArray s 0 0 A) (F0 m 4 ls []) := by
    intro fuel
    induction fuel with
    | zero => intro k z9 H locs ls hk hz hf; exact absurd hf (Nat.not_lt_zero _)
    | succ fuel ih =>
      intro k z9 H locs ls hk hz hf hP hD hS hl
      refine lv_iload_n hx hb zd_M_movers_4 rfl (lv_at hl 0 rfl) ?_
      refine lv_aload_n hx hb zd_M_movers_5 rfl (lv_at hl 2 rfl) ?_
      refine va_get (D := (dC, dI)) (ci := 3) (v := .int (nI cr)) (C := zR_M) (T := zF_M) (N := 16) hx hb htz zi_M hown hK hP 0 rfl rfl 14 (by decide) (htz _ zq_473) (fun _ h9 => h9) rfl zd_M_movers_6 ?_
      refine lv_icmp_ge (tgt := 40) hx hb zd_M_movers_9 (by decide) (fun c1_ => ?_) (fun c1_ => ?_)
      · have hk2 : k = cr := Nat.le_antisymm hk (Nat.le_of_not_lt (fun h => nI_ge h (by omega) c1_))
        refine lv_iload_n hx hb zd_M_movers_40 rfl (lv_at hl 1 rfl) ?_
        exact z_iret hx hb hr hlocks hP hK hD hS zd_M_movers_41 (by decide) (by decide) ⟨by rw [← hz, hk2], rfl⟩
      · have hk2 : k < cr := Nat.lt_of_not_le (fun h => c1_ (nI_le h (by omega)))
        refine lv_iload_n hx hb zd_M_movers_12 rfl (lv_at hl 3 rfl) ?_
        refine lv_if_ne (tgt := 26) hx hb zd_M_movers_13 (by decide) (fun c2_ => absurd (by decide) c2_) (fun _ => ?_)
        refine lv_aload_n hx hb zd_M_movers_16 rfl (lv_at hl 2 rfl) ?_
        refine va_get (D := (dC, dI)) (ci := 3) (v := .ref bhd) (C := zR_M) (T := zF_M) (N := 16) hx hb htz zi_M hown hK hP 0 rfl rfl 10 (by decide) (htz _ zq_469) (fun _ h9 => h9) rfl zd_M_movers_17 ?_
        refine lv_iload_n hx hb zd_M_movers_20 rfl (lv_at hl 0 rfl) ?_
        refine z_iald hx hb hK hP 1 0 rfl rfl (j := k) (by omega) (by decide) zd_M_movers_21 ?_
        refine lv_iconst (v := (-1)) hx hb zd_M_movers_22 (by decide) ?_
        refine lv_icmp_eq (tgt := 32) hx hb zd_M_movers_23 (by decide) (fun c3_ => ?_) (fun c3_ => ?_)
        · have hz2 : zcnt hd (k + 1) = z9 := by rw [zcnt_stay c3_, hz]
          refine lv_iload_n hx hb zd_M_movers_32 rfl (lv_at hl 1 rfl) ?_
          refine lv_istore_n (lv' := [(2, .int (nI z9)), (3, .int (nI k)), (0, .ref md), (1, .int (nI 0))]) hx hb zd_M_movers_33 rfl hl (by decide) rfl (fun ls hl => ?_)
          refine lv_iinc (v := (nI (k + 1))) (lv' := [(3, .int (nI (k + 1))), (2, .int (nI z9)), (0, .ref md), (1, .int (nI 0))]) hx hb zd_M_movers_34 hl (k := 1) rfl (nI_1 k) (by decide) rfl (fun ls hl => ?_)
          refine lv_goto (tgt := 4) hx hb zd_M_movers_37 (by decide) ?_
          exact ih (k + 1) z9 _ _ _ (by omega) hz2 (by omega) hP hD hS hl
        · have hz2 : zcnt hd (k + 1) = z9 + 1 := by rw [zcnt_step c3_, hz]
          refine lv_iload_n hx hb zd_M_movers_26 rfl (lv_at hl 1 rfl) ?_
          refine lv_iconst (v := (nI 1)) hx hb zd_M_movers_27 (by decide) ?_
          refine lv_iadd hx hb zd_M_movers_28 ?_
          refine z_topi (y := (nI (z9 + 1))) (nI_add z9 1) ?_
          refine lv_goto (tgt := 33) hx hb zd_M_movers_29 (by decide) ?_
          refine lv_istore_n (lv' := [(2, .int (nI (z9 + 1))), (3, .int (nI k)), (0, .ref md), (1, .int (nI 0))]) hx hb zd_M_movers_33 rfl hl (by decide) rfl (fun ls hl => ?_)
          refine lv_iinc (v := (nI (k + 1))) (lv' := [(3, .int (nI (k + 1))), (2, .int (nI (z9 + 1))), (0, .ref md), (1, .int (nI 0))]) hx hb zd_M_movers_34 hl (k := 1) rfl (nI_1 k) (by decide) rfl (fun ls hl => ?_)
          refine lv_goto (tgt := 4) hx hb zd_M_movers_37 (by decide) ?_
          exact ih (k + 1) (z9 + 1) _ _ _ (by omega) hz2 (by omega) hP hD hS hl
  exact lp4 _ 0 0 _ _ _ (Nat.zero_le _) rfl (Nat.lt_succ_self _) hP hD hS hl
set_option maxHeartbeats 4000000 in
set_option maxRecDepth 100000 in
/--  -/
theorem k_Model_mover_1 (l : Launch) (dC : Nat → ClassId) (dI : Nat → Nat → Nat) (cI cJ cZ : ClassId) (md : Nat) (th : Int32) (n : Nat) (bw : Nat) (bf : Nat) (bv : Nat) (bz : Nat) (kn : Nat) (bsp : Nat) (bdt : Nat) (bdr : Nat) (bhd : Nat) (bmv : Nat) (bod : Nat) (pl : Nat) (cr : Nat) (tk : Nat) (hd : Nat → Int32) (q : Nat) (hc : cr ≤ 16) (hq : q < cr) (sz : Nat) : zMi l zy_M_mover zw_M_mover ({ frames := 0, cells := 0, slots := 0, locals := 0 }) [.ref md, .int (nI q), .int (nI 1)] (dC, dI) zcl [(cI, .int), (cJ, .long), (cZ, .boolean)] [(md, .inr (3, [.int th, .int (nI n), .ref bw, .ref bf, .ref bv, .ref bz, .int (nI kn), .ref bsp, .ref bdt, .ref bdr, .ref bhd, .ref bmv, .ref bod, .int (nI pl), .int (nI cr), .int (nI tk)])), (bhd, .inl (cI, 16, .inl hd))] sz (fun (r : Int32) (u : va_W) => r = nI q ∧ u = [(md, .inr (3, [.int th, .int (nI n), .ref bw, .ref bf, .ref bv, .ref bz, .int (nI kn), .ref bsp, .ref bdt, .ref bdr, .ref bhd, .ref bmv, .ref bod, .int (nI pl), .int (nI cr), .int (nI tk)])), (bhd, .inl (cI, 16, .inl hd))]) := by
  refine z_ofi (cc := zc_M_mover) (maxL := 6) (ret := (some .int)) (by decide) rfl (Nat.le_of_ble_eq_true rfl) ?_
  intro p e s m below meth c A ls hx hb hr hml hown htz hlocks hin hA hP hK hD hS hl
  have hown : s.vm.findClass zR_M = some m.cls := hown
  have hl : lv_has ls 6 [(0, .ref md), (1, .int (nI q)), (2, .int (nI 1))] := hl
  refine lv_iload_n hx hb zd_M_mover_0 rfl (lv_at hl 1 rfl) ?_
  refine lv_istore_n (lv' := [(3, .int (nI q)), (0, .ref md), (1, .int (nI q)), (2, .int (nI 1))]) hx hb zd_M_mover_1 rfl hl (by decide) rfl (fun ls hl => ?_)
  refine lv_iconst (v := (nI 0)) hx hb zd_M_mover_2 (by decide) ?_
  refine lv_istore (lv' := [(4, .int (nI 0)), (3, .int (nI q)), (0, .ref md), (1, .int (nI q)), (2, .int (nI 1))]) hx hb zd_M_mover_3 hl (by decide) rfl (fun ls hl => ?_)
  have lp5 : ∀ (fuel : Nat) (k : Nat) (lf : Nat) (H : Heap) (locs : List Loc) (ls : Array Slot), (k ≤ cr) → (lf + k = q) → cr - k < fuel → va_P (dC, dI) zcl [(md, .inr (3, [.int th, .int (nI n), .ref bw, .ref bf, .ref bv, .ref bz, .int (nI kn), .ref bsp, .ref bdt, .ref bdr, .ref bhd, .ref bmv, .ref bod, .int (nI pl), .int (nI cr), .int (nI tk)])), (bhd, .inl (cI, 16, .inl hd))] H → va_D A [(md, .inr (3, [.int th, .int (nI n), .ref bw, .ref bf, .ref bv, .ref bz, .int (nI kn), .ref bsp, .ref bdt, .ref bdr, .ref bhd, .ref bmv, .ref bod, .int (nI pl), .int (nI cr), .int (nI tk)])), (bhd, .inl (cI, 16, .inl hd))] → va_S A s.heap H locs → lv_has ls 6 [(4, .int (nI k)), (3, .int (nI lf)), (0, .ref md), (1, .int (nI q)), (2, .int (nI 1))] → W p l e ({ frames := 0, cells := 0, slots := 0, locals := 0 } : Room) s m [.ref md, .int (nI q), .int (nI 1)].toArray below meth c H locs 0 0 (MQ below (va_Qi (fun (r : Int32) (u : va_W) => r = nI q ∧ u = [(md, .inr (3, [.int th, .int (nI n), .ref bw, .ref bf, .ref bv, .ref bz, .int (nI kn), .ref bsp, .ref bdt, .ref bdr, .ref bhd, .ref bmv, .ref bod, .int (nI pl), .int (nI cr), .int (nI tk)])), (bhd, .inl (cI, 16, .inl hd))]) (zAt (dC, dI) zcl [(cI, .int), (cJ, .long), (cZ, .boolean)] A) A) [.ref md, .int (nI q), .int (nI 1)].toArray s 0 0 A) (F0 m 5 ls []) := by
    intro fuel
    induction fuel with
    | zero => intro k lf H locs ls hk hlf hf; exact absurd hf (Nat.not_lt_zero _)
    | succ fuel ih =>
      intro k lf H locs ls hk hlf hf hP hD hS hl
      refine lv_iload hx hb zd_M_mover_5 (lv_at hl 0 rfl) ?_
      refine lv_aload_n hx hb zd_M_mover_7 rfl (lv_at hl 2 rfl) ?_
      refine va_get (D := (dC, dI)) (ci := 3) (v := .int (nI cr)) (C := zR_M) (T := zF_M) (N := 16) hx hb htz zi_M hown hK hP 0 rfl rfl 14 (by decide) (htz _ zq_473) (fun _ h9 => h9) rfl zd_M_mover_8 ?_
      refine lv_icmp_ge (tgt := 67) hx hb zd_M_mover_11 (by decide) (fun c1_ => ?_) (fun c1_ => ?_)
      · have hk2 : k = cr := Nat.le_antisymm hk (Nat.le_of_not_lt (fun h => nI_ge h (by omega) c1_))
        exfalso
        rw [hk2] at hlf
        omega
      · have hk2 : k < cr := Nat.lt_of_not_le (fun h => c1_ (nI_le h (by omega)))
        refine lv_iload_n hx hb zd_M_mover_14 rfl (lv_at hl 4 rfl) ?_
        refine lv_if_ne (tgt := 29) hx hb zd_M_mover_15 (by decide) (fun _ => ?_) (fun c2_ => absurd c2_ (by decide))
        refine lv_iconst (v := (nI 1)) hx hb zd_M_mover_29 (by decide) ?_
        refine lv_goto (tgt := 34) hx hb zd_M_mover_30 (by decide) ?_
        refine lv_istore (lv' := [(5, .int (nI 1)), (4, .int (nI k)), (3, .int (nI lf)), (0, .ref md), (1, .int (nI q)), (2, .int (nI 1))]) hx hb zd_M_mover_34 hl (by decide) rfl (fun ls hl => ?_)
        refine lv_iload hx hb zd_M_mover_36 (lv_at hl 0 rfl) ?_
        refine lv_if_eq (tgt := 48) hx hb zd_M_mover_38 (by decide) (fun c3_ => absurd c3_ (by decide)) (fun _ => ?_)
        refine lv_iload_n hx hb zd_M_mover_41 rfl (lv_at hl 2 rfl) ?_
        refine lv_if_ne (tgt := 48) hx hb zd_M_mover_42 (by decide) (fun c4_ => ?_) (fun c4_ => ?_)
        · have hl0 : 0 < lf := Nat.pos_of_ne_zero (fun h => c4_ (by rw [h]; rfl))
          refine lv_iload hx hb zd_M_mover_48 (lv_at hl 0 rfl) ?_
          refine lv_if_eq (tgt := 59) hx hb zd_M_mover_50 (by decide) (fun c5_ => absurd c5_ (by decide)) (fun _ => ?_)
          refine lv_iload_n hx hb zd_M_mover_53 rfl (lv_at hl 2 rfl) ?_
          refine lv_iconst (v := (nI 1)) hx hb zd_M_mover_54 (by decide) ?_
          refine lv_isub hx hb zd_M_mover_55 ?_
          refine z_topi (y := nI (lf - 1)) (pk_sub hl0) ?_
          refine lv_goto (tgt := 60) hx hb zd_M_mover_56 (by decide) ?_
          refine lv_istore_n (lv' := [(3, .int (nI (lf - 1))), (5, .int (nI 1)), (4, .int (nI k)), (0, .ref md), (1, .int (nI q)), (2, .int (nI 1))]) hx hb zd_M_mover_60 rfl hl (by decide) rfl (fun ls hl => ?_)
          refine lv_iinc (v := (nI (k + 1))) (lv' := [(4, .int (nI (k + 1))), (3, .int (nI (lf - 1))), (5, .int (nI 1)), (0, .ref md), (1, .int (nI q)), (2, .int (nI 1))]) hx hb zd_M_mover_61 hl (k := 2) rfl (nI_1 k) (by decide) rfl (fun ls hl => ?_)
          refine lv_goto (tgt := 5) hx hb zd_M_mover_64 (by decide) ?_
          exact ih (k + 1) (lf - 1) _ _ _ (by omega) (by omega) (by omega) hP hD hS (lv_sub hl [0, 1, 3, 4, 5] rfl)
        · have hl0 : lf = 0 := (nI_eq (b := 0) (by omega) (by decide)).mp c4_
          refine lv_iload hx hb zd_M_mover_45 (lv_at hl 1 rfl) ?_
          exact z_iret hx hb hr hlocks hP hK hD hS zd_M_mover_47 (by decide) (by decide) ⟨by rw [show k = q by omega], rfl⟩
  exact lp5 _ 0 q _ _ _ (Nat.zero_le _) rfl (Nat.lt_succ_self _) hP hD hS hl
set_option maxHeartbeats 4000000 in
set_option maxRecDepth 100000 in
/--  -/
theorem k_Model_mover_0 (l : Launch) (dC : Nat → ClassId) (dI : Nat → Nat → Nat) (cI cJ cZ : ClassId) (md : Nat) (th : Int32) (n : Nat) (bw : Nat) (bf : Nat) (bv : Nat) (bz : Nat) (kn : Nat) (bsp : Nat) (bdt : Nat) (bdr : Nat) (bhd : Nat) (bmv : Nat) (bod : Nat) (pl : Nat) (cr : Nat) (tk : Nat) (hd : Nat → Int32) (q : Nat) (hc : cr ≤ 16) (hq : q < zcnt hd cr) (sz : Nat) : zMi l zy_M_mover zw_M_mover ({ frames := 0, cells := 0, slots := 0, locals := 0 }) [.ref md, .int (nI q), .int (nI 0)] (dC, dI) zcl [(cI, .int), (cJ, .long), (cZ, .boolean)] [(md, .inr (3, [.int th, .int (nI n), .ref bw, .ref bf, .ref bv, .ref bz, .int (nI kn), .ref bsp, .ref bdt, .ref bdr, .ref bhd, .ref bmv, .ref bod, .int (nI pl), .int (nI cr), .int (nI tk)])), (bhd, .inl (cI, 16, .inl hd))] sz (fun (r : Int32) (u : va_W) => r = nI (zth hd cr 0 q) ∧ u = [(md, .inr (3, [.int th, .int (nI n), .ref bw, .ref bf, .ref bv, .ref bz, .int (nI kn), .ref bsp, .ref bdt, .ref bdr, .ref bhd, .ref bmv, .ref bod, .int (nI pl), .int (nI cr), .int (nI tk)])), (bhd, .inl (cI, 16, .inl hd))]) := by
  refine z_ofi (cc := zc_M_mover) (maxL := 6) (ret := (some .int)) (by decide) rfl (Nat.le_of_ble_eq_true rfl) ?_
  intro p e s m below meth c A ls hx hb hr hml hown htz hlocks hin hA hP hK hD hS hl
  have hown : s.vm.findClass zR_M = some m.cls := hown
  have hl : lv_has ls 6 [(0, .ref md), (1, .int (nI q)), (2, .int (nI 0))] := hl
  refine lv_iload_n hx hb zd_M_mover_0 rfl (lv_at hl 1 rfl) ?_
  refine lv_istore_n (lv' := [(3, .int (nI q)), (0, .ref md), (1, .int (nI q)), (2, .int (nI 0))]) hx hb zd_M_mover_1 rfl hl (by decide) rfl (fun ls hl => ?_)
  refine lv_iconst (v := (nI 0)) hx hb zd_M_mover_2 (by decide) ?_
  refine lv_istore (lv' := [(4, .int (nI 0)), (3, .int (nI q)), (0, .ref md), (1, .int (nI q)), (2, .int (nI 0))]) hx hb zd_M_mover_3 hl (by decide) rfl (fun ls hl => ?_)
  have lp5 : ∀ (fuel : Nat) (k : Nat) (lf : Nat) (H : Heap) (locs : List Loc) (ls : Array Slot), (k ≤ cr) → (lf + zcnt hd k = q) → cr - k < fuel → va_P (dC, dI) zcl [(md, .inr (3, [.int th, .int (nI n), .ref bw, .ref bf, .ref bv, .ref bz, .int (nI kn), .ref bsp, .ref bdt, .ref bdr, .ref bhd, .ref bmv, .ref bod, .int (nI pl), .int (nI cr), .int (nI tk)])), (bhd, .inl (cI, 16, .inl hd))] H → va_D A [(md, .inr (3, [.int th, .int (nI n), .ref bw, .ref bf, .ref bv, .ref bz, .int (nI kn), .ref bsp, .ref bdt, .ref bdr, .ref bhd, .ref bmv, .ref bod, .int (nI pl), .int (nI cr), .int (nI tk)])), (bhd, .inl (cI, 16, .inl hd))] → va_S A s.heap H locs → lv_has ls 6 [(4, .int (nI k)), (3, .int (nI lf)), (0, .ref md), (1, .int (nI q)), (2, .int (nI 0))] → W p l e ({ frames := 0, cells := 0, slots := 0, locals := 0 } : Room) s m [.ref md, .int (nI q), .int (nI 0)].toArray below meth c H locs 0 0 (MQ below (va_Qi (fun (r : Int32) (u : va_W) => r = nI (zth hd cr 0 q) ∧ u = [(md, .inr (3, [.int th, .int (nI n), .ref bw, .ref bf, .ref bv, .ref bz, .int (nI kn), .ref bsp, .ref bdt, .ref bdr, .ref bhd, .ref bmv, .ref bod, .int (nI pl), .int (nI cr), .int (nI tk)])), (bhd, .inl (cI, 16, .inl hd))]) (zAt (dC, dI) zcl [(cI, .int), (cJ, .long), (cZ, .boolean)] A) A) [.ref md, .int (nI q), .int (nI 0)].toArray s 0 0 A) (F0 m 5 ls []) := by
    intro fuel
    induction fuel with
    | zero => intro k lf H locs ls hk hlf hf; exact absurd hf (Nat.not_lt_zero _)
    | succ fuel ih =>
      intro k lf H locs ls hk hlf hf hP hD hS hl
      have hcl := zcnt_le hd cr
      refine lv_iload hx hb zd_M_mover_5 (lv_at hl 0 rfl) ?_
      refine lv_aload_n hx hb zd_M_mover_7 rfl (lv_at hl 2 rfl) ?_
      refine va_get (D := (dC, dI)) (ci := 3) (v := .int (nI cr)) (C := zR_M) (T := zF_M) (N := 16) hx hb htz zi_M hown hK hP 0 rfl rfl 14 (by decide) (htz _ zq_473) (fun _ h9 => h9) rfl zd_M_mover_8 ?_
      refine lv_icmp_ge (tgt := 67) hx hb zd_M_mover_11 (by decide) (fun c1_ => ?_) (fun c1_ => ?_)
      · have hk2 : k = cr := Nat.le_antisymm hk (Nat.le_of_not_lt (fun h => nI_ge h (by omega) c1_))
        exfalso
        rw [hk2] at hlf
        omega
      · have hk2 : k < cr := Nat.lt_of_not_le (fun h => c1_ (nI_le h (by omega)))
        refine lv_iload_n hx hb zd_M_mover_14 rfl (lv_at hl 4 rfl) ?_
        refine lv_if_ne (tgt := 29) hx hb zd_M_mover_15 (by decide) (fun c2_ => absurd (by decide) c2_) (fun _ => ?_)
        refine lv_aload_n hx hb zd_M_mover_18 rfl (lv_at hl 2 rfl) ?_
        refine va_get (D := (dC, dI)) (ci := 3) (v := .ref bhd) (C := zR_M) (T := zF_M) (N := 16) hx hb htz zi_M hown hK hP 0 rfl rfl 10 (by decide) (htz _ zq_469) (fun _ h9 => h9) rfl zd_M_mover_19 ?_
        refine lv_iload hx hb zd_M_mover_22 (lv_at hl 0 rfl) ?_
        refine z_iald hx hb hK hP 1 0 rfl rfl (j := k) (by omega) (by decide) zd_M_mover_24 ?_
        refine lv_iconst (v := (-1)) hx hb zd_M_mover_25 (by decide) ?_
        refine lv_icmp_eq (tgt := 33) hx hb zd_M_mover_26 (by decide) (fun c3_ => ?_) (fun c3_ => ?_)
        · have hs9 := zcnt_stay (f := hd) c3_
          refine lv_iconst (v := (nI 0)) hx hb zd_M_mover_33 (by decide) ?_
          refine lv_istore (lv' := [(5, .int (nI 0)), (4, .int (nI k)), (3, .int (nI lf)), (0, .ref md), (1, .int (nI q)), (2, .int (nI 0))]) hx hb zd_M_mover_34 hl (by decide) rfl (fun ls hl => ?_)
          refine lv_iload hx hb zd_M_mover_36 (lv_at hl 0 rfl) ?_
          refine lv_if_eq (tgt := 48) hx hb zd_M_mover_38 (by decide) (fun _ => ?_) (fun c4_ => absurd (by decide) c4_)
          refine lv_iload hx hb zd_M_mover_48 (lv_at hl 0 rfl) ?_
          refine lv_if_eq (tgt := 59) hx hb zd_M_mover_50 (by decide) (fun _ => ?_) (fun c5_ => absurd (by decide) c5_)
          refine lv_iload_n hx hb zd_M_mover_59 rfl (lv_at hl 2 rfl) ?_
          refine lv_istore_n (lv' := [(3, .int (nI lf)), (5, .int (nI 0)), (4, .int (nI k)), (0, .ref md), (1, .int (nI q)), (2, .int (nI 0))]) hx hb zd_M_mover_60 rfl hl (by decide) rfl (fun ls hl => ?_)
          refine lv_iinc (v := (nI (k + 1))) (lv' := [(4, .int (nI (k + 1))), (3, .int (nI lf)), (5, .int (nI 0)), (0, .ref md), (1, .int (nI q)), (2, .int (nI 0))]) hx hb zd_M_mover_61 hl (k := 2) rfl (nI_1 k) (by decide) rfl (fun ls hl => ?_)
          refine lv_goto (tgt := 5) hx hb zd_M_mover_64 (by decide) ?_
          exact ih (k + 1) lf _ _ _ (by omega) (by omega) (by omega) hP hD hS (lv_sub hl [0, 1, 3, 4, 5] rfl)
        · have hne := c3_
          have hs9 := zcnt_step (f := hd) c3_
          refine lv_iconst (v := (nI 1)) hx hb zd_M_mover_29 (by decide) ?_
          refine lv_goto (tgt := 34) hx hb zd_M_mover_30 (by decide) ?_
          refine lv_istore (lv' := [(5, .int (nI 1)), (4, .int (nI k)), (3, .int (nI lf)), (0, .ref md), (1, .int (nI q)), (2, .int (nI 0))]) hx hb zd_M_mover_34 hl (by decide) rfl (fun ls hl => ?_)
          refine lv_iload hx hb zd_M_mover_36 (lv_at hl 0 rfl) ?_
          refine lv_if_eq (tgt := 48) hx hb zd_M_mover_38 (by decide) (fun c6_ => absurd c6_ (by decide)) (fun _ => ?_)
          refine lv_iload_n hx hb zd_M_mover_41 rfl (lv_at hl 2 rfl) ?_
          refine lv_if_ne (tgt := 48) hx hb zd_M_mover_42 (by decide) (fun c7_ => ?_) (fun c7_ => ?_)
          · have hl0 : 0 < lf := Nat.pos_of_ne_zero (fun h => c7_ (by rw [h]; rfl))
            refine lv_iload hx hb zd_M_mover_48 (lv_at hl 0 rfl) ?_
            refine lv_if_eq (tgt := 59) hx hb zd_M_mover_50 (by decide) (fun c8_ => absurd c8_ (by decide)) (fun _ => ?_)
            refine lv_iload_n hx hb zd_M_mover_53 rfl (lv_at hl 2 rfl) ?_
            refine lv_iconst (v := (nI 1)) hx hb zd_M_mover_54 (by decide) ?_
            refine lv_isub hx hb zd_M_mover_55 ?_
            refine z_topi (y := nI (lf - 1)) (pk_sub hl0) ?_
            refine lv_goto (tgt := 60) hx hb zd_M_mover_56 (by decide) ?_
            refine lv_istore_n (lv' := [(3, .int (nI (lf - 1))), (5, .int (nI 1)), (4, .int (nI k)), (0, .ref md), (1, .int (nI q)), (2, .int (nI 0))]) hx hb zd_M_mover_60 rfl hl (by decide) rfl (fun ls hl => ?_)
            refine lv_iinc (v := (nI (k + 1))) (lv' := [(4, .int (nI (k + 1))), (3, .int (nI (lf - 1))), (5, .int (nI 1)), (0, .ref md), (1, .int (nI q)), (2, .int (nI 0))]) hx hb zd_M_mover_61 hl (k := 2) rfl (nI_1 k) (by decide) rfl (fun ls hl => ?_)
            refine lv_goto (tgt := 5) hx hb zd_M_mover_64 (by decide) ?_
            exact ih (k + 1) (lf - 1) _ _ _ (by omega) (by omega) (by omega) hP hD hS (lv_sub hl [0, 1, 3, 4, 5] rfl)
          · have hl0 : lf = 0 := (nI_eq (b := 0) (by omega) (by decide)).mp c7_
            refine lv_iload hx hb zd_M_mover_45 (lv_at hl 1 rfl) ?_
            exact z_iret hx hb hr hlocks hP hK hD hS zd_M_mover_47 (by decide) (by decide) ⟨by rw [zth_is hk2 hne (by omega)], rfl⟩
  exact lp5 _ 0 q _ _ _ (Nat.zero_le _) rfl (Nat.lt_succ_self _) hP hD hS hl
set_option maxHeartbeats 4000000 in
set_option maxRecDepth 100000 in
/--  -/
theorem k_Model_winner (l : Launch) (dC : Nat → ClassId) (dI : Nat → Nat → Nat) (cI cJ cZ : ClassId) (md : Nat) (th : Int32) (n : Nat) (bw : Nat) (bf : Nat) (bv : Nat) (bz : Nat) (kn : Nat) (bsp : Nat) (bdt : Nat) (bdr : Nat) (bhd : Nat) (bmv : Nat) (bod : Nat) (pl : Nat) (cr : Nat) (tk : Nat) (se : Nat → Int32) (hn : n ≤ 16) (sz : Nat) : zMi l zy_M_winner zw_M_winner ({ frames := 0, cells := 0, slots := 0, locals := 0 }) [.ref md] (dC, dI) zcl [(cI, .int), (cJ, .long), (cZ, .boolean)] [(md, .inr (3, [.int th, .int (nI n), .ref bw, .ref bf, .ref bv, .ref bz, .int (nI kn), .ref bsp, .ref bdt, .ref bdr, .ref bhd, .ref bmv, .ref bod, .int (nI pl), .int (nI cr), .int (nI tk)])), (bz, .inl (cZ, 16, .inl se))] sz (fun (r : Int32) (u : va_W) => (r = nI (zwin se n) ∧ u = [(md, .inr (3, [.int th, .int (nI n), .ref bw, .ref bf, .ref bv, .ref bz, .int (nI kn), .ref bsp, .ref bdt, .ref bdr, .ref bhd, .ref bmv, .ref bod, .int (nI pl), .int (nI cr), .int (nI tk)])), (bz, .inl (cZ, 16, .inl se))] ∧ zwin se n < n) ∨ (r = (-1) ∧ u = [(md, .inr (3, [.int th, .int (nI n), .ref bw, .ref bf, .ref bv, .ref bz, .int (nI kn), .ref bsp, .ref bdt, .ref bdr, .ref bhd, .ref bmv, .ref bod, .int (nI pl), .int (nI cr), .int (nI tk)])), (bz, .inl (cZ, 16, .inl se))] ∧ zwin se n = n)) := by
  refine z_ofi (cc := zc_M_winner) (maxL := 2) (ret := (some .int)) (by decide) rfl (Nat.le_of_ble_eq_true rfl) ?_
  intro p e s m below meth c A ls hx hb hr hml hown htz hlocks hin hA hP hK hD hS hl
  have hown : s.vm.findClass zR_M = some m.cls := hown
  have hl : lv_has ls 2 [(0, .ref md)] := hl
  refine lv_iconst (v := (nI 0)) hx hb zd_M_winner_0 (by decide) ?_
  refine lv_istore_n (lv' := [(1, .int (nI 0)), (0, .ref md)]) hx hb zd_M_winner_1 rfl hl (by decide) rfl (fun ls hl => ?_)
  have lp2 : ∀ (fuel : Nat) (k : Nat) (H : Heap) (locs : List Loc) (ls : Array Slot), (k ≤ n) → (∀ q, q < k → se q = 0) → n - k < fuel → va_P (dC, dI) zcl [(md, .inr (3, [.int th, .int (nI n), .ref bw, .ref bf, .ref bv, .ref bz, .int (nI kn), .ref bsp, .ref bdt, .ref bdr, .ref bhd, .ref bmv, .ref bod, .int (nI pl), .int (nI cr), .int (nI tk)])), (bz, .inl (cZ, 16, .inl se))] H → va_D A [(md, .inr (3, [.int th, .int (nI n), .ref bw, .ref bf, .ref bv, .ref bz, .int (nI kn), .ref bsp, .ref bdt, .ref bdr, .ref bhd, .ref bmv, .ref bod, .int (nI pl), .int (nI cr), .int (nI tk)])), (bz, .inl (cZ, 16, .inl se))] → va_S A s.heap H locs → lv_has ls 2 [(1, .int (nI k)), (0, .ref md)] → W p l e ({ frames := 0, cells := 0, slots := 0, locals := 0 } : Room) s m [.ref md].toArray below meth c H locs 0 0 (MQ below (va_Qi (fun (r : Int32) (u : va_W) => (r = nI (zwin se n) ∧ u = [(md, .inr (3, [.int th, .int (nI n), .ref bw, .ref bf, .ref bv, .ref bz, .int (nI kn), .ref bsp, .ref bdt, .ref bdr, .ref bhd, .ref bmv, .ref bod, .int (nI pl), .int (nI cr), .int (nI tk)])), (bz, .inl (cZ, 16, .inl se))] ∧ zwin se n < n) ∨ (r = (-1) ∧ u = [(md, .inr (3, [.int th, .int (nI n), .ref bw, .ref bf, .ref bv, .ref bz, .int (nI kn), .ref bsp, .ref bdt, .ref bdr, .ref bhd, .ref bmv, .ref bod, .int (nI pl), .int (nI cr), .int (nI tk)])), (bz, .inl (cZ, 16, .inl se))] ∧ zwin se n = n)) (zAt (dC, dI) zcl [(cI, .int), (cJ, .long), (cZ, .boolean)] A) A) [.ref md].toArray s 0 0 A) (F0 m 2 ls []) := by
    intro fuel
    induction fuel with
    | zero => intro k H locs ls hk hz hf; exact absurd hf (Nat.not_lt_zero _)
    | succ fuel ih =>
      intro k H locs ls hk hz hf hP hD hS hl
      refine lv_iload_n hx hb zd_M_winner_2 rfl (lv_at hl 0 rfl) ?_
      refine lv_aload_n hx hb zd_M_winner_3 rfl (lv_at hl 1 rfl) ?_
      refine va_get (D := (dC, dI)) (ci := 3) (v := .int (nI n)) (C := zR_M) (T := zF_M) (N := 16) hx hb htz zi_M hown hK hP 0 rfl rfl 1 (by decide) (htz _ zq_460) (fun _ h9 => h9) rfl zd_M_winner_4 ?_
      refine lv_icmp_ge (tgt := 27) hx hb zd_M_winner_7 (by decide) (fun c1_ => ?_) (fun c1_ => ?_)
      · have hk2 : k = n := Nat.le_antisymm hk (Nat.le_of_not_lt (fun h => nI_ge h (by omega) c1_))
        subst hk2
        have hw9 := zwin_no hz
        refine lv_iconst (v := (-1)) hx hb zd_M_winner_27 (by decide) ?_
        exact z_iret hx hb hr hlocks hP hK hD hS zd_M_winner_28 (by decide) (by decide) (Or.inr ⟨rfl, rfl, hw9⟩)
      · have hk2 : k < n := Nat.lt_of_not_le (fun h => c1_ (nI_le h (by omega)))
        refine lv_aload_n hx hb zd_M_winner_10 rfl (lv_at hl 1 rfl) ?_
        refine va_get (D := (dC, dI)) (ci := 3) (v := .ref bz) (C := zR_M) (T := zF_M) (N := 16) hx hb htz zi_M hown hK hP 0 rfl rfl 5 (by decide) (htz _ zq_464) (fun _ h9 => h9) rfl zd_M_winner_11 ?_
        refine lv_iload_n hx hb zd_M_winner_14 rfl (lv_at hl 0 rfl) ?_
        refine z_zald hx hb hK hP 1 2 rfl rfl (j := k) (by omega) (by decide) zd_M_winner_15 ?_
        refine lv_if_eq (tgt := 21) hx hb zd_M_winner_16 (by decide) (fun c2_ => ?_) (fun c2_ => ?_)
        · have hz2 : ∀ q, q < k + 1 → se q = 0 := fun q hq => (Nat.lt_or_eq_of_le (Nat.le_of_lt_succ hq)).elim (hz q) (fun e => e ▸ c2_)
          refine lv_iinc (v := (nI (k + 1))) (lv' := [(1, .int (nI (k + 1))), (0, .ref md)]) hx hb zd_M_winner_21 hl (k := 0) rfl (nI_1 k) (by decide) rfl (fun ls hl => ?_)
          refine lv_goto (tgt := 2) hx hb zd_M_winner_24 (by decide) ?_
          exact ih (k + 1) _ _ _ (by omega) hz2 (by omega) hP hD hS hl
        · have hw9 := zwin_at hk2 hz c2_
          refine lv_iload_n hx hb zd_M_winner_19 rfl (lv_at hl 0 rfl) ?_
          exact z_iret hx hb hr hlocks hP hK hD hS zd_M_winner_20 (by decide) (by decide) (Or.inl ⟨by rw [hw9], rfl, by rw [hw9]; exact hk2⟩)
  exact lp2 _ 0 _ _ _ (Nat.zero_le _) (fun q hq => absurd hq (Nat.not_lt_zero _)) (Nat.lt_succ_self _) hP hD hS hl
set_option maxHeartbeats 4000000 in
set_option maxRecDepth 100000 in
/--  -/
theorem k_Model_counts_k (l : Launch) (dC : Nat → ClassId) (dI : Nat → Nat → Nat) (cI cJ cZ : ClassId) (md : Nat) (th : Int32) (n : Nat) (bw : Nat) (bf : Nat) (bv : Nat) (bz : Nat) (kn : Nat) (bsp : Nat) (bdt : Nat) (bdr : Nat) (bhd : Nat) (bmv : Nat) (bod : Nat) (pl : Nat) (cr : Nat) (tk : Nat) (se : Nat → Int32) (j : Nat) (hn : n ≤ 16) (hj : j < n) (sz : Nat) : zMi l zy_M_counts zw_M_counts ({ frames := 1, cells := 0, slots := 0, locals := 21 }) [.ref md, .int (nI j)] (dC, dI) zcl [(cI, .int), (cJ, .long), (cZ, .boolean)] [(md, .inr (3, [.int th, .int (nI n), .ref bw, .ref bf, .ref bv, .ref bz, .int (nI kn), .ref bsp, .ref bdt, .ref bdr, .ref bhd, .ref bmv, .ref bod, .int (nI pl), .int (nI cr), .int (nI tk)])), (bz, .inl (cZ, 16, .inl se))] sz (fun (r : Int32) (u : va_W) => (r = nI 1 ∧ u = [(md, .inr (3, [.int th, .int (nI n), .ref bw, .ref bf, .ref bv, .ref bz, .int (nI kn), .ref bsp, .ref bdt, .ref bdr, .ref bhd, .ref bmv, .ref bod, .int (nI pl), .int (nI cr), .int (nI tk)])), (bz, .inl (cZ, 16, .inl se))] ∧ j ≤ zwin se n) ∨ (r = nI 0 ∧ u = [(md, .inr (3, [.int th, .int (nI n), .ref bw, .ref bf, .ref bv, .ref bz, .int (nI kn), .ref bsp, .ref bdt, .ref bdr, .ref bhd, .ref bmv, .ref bod, .int (nI pl), .int (nI cr), .int (nI tk)])), (bz, .inl (cZ, 16, .inl se))] ∧ zwin se n < j)) := by
  refine z_ofi (cc := zc_M_counts) (maxL := 3) (ret := (some .boolean)) (by decide) rfl (Nat.le_of_ble_eq_true rfl) ?_
  intro p e s m below meth c A ls hx hb hr hml hown htz hlocks hin hA hP hK hD hS hl
  have hown : s.vm.findClass zR_M = some m.cls := hown
  have hl : lv_has ls 3 [(0, .ref md), (1, .int (nI j))] := hl
  refine lv_aload_n hx hb zd_M_counts_0 rfl (lv_at hl 0 rfl) ?_
  refine z_Vi (As := []) (rest := []) (wc := [(md, .inr (3, [.int th, .int (nI n), .ref bw, .ref bf, .ref bv, .ref bz, .int (nI kn), .ref bsp, .ref bdt, .ref bdr, .ref bhd, .ref bmv, .ref bod, .int (nI pl), .int (nI cr), .int (nI tk)])), (bz, .inl (cZ, 16, .inl se))]) (wr := []) ⟨hx, hb, hml, hown, htz⟩ hK hP hD hS hA (k_Model_winner l dC dI cI cJ cZ md th n bw bf bv bz kn bsp bdt bdr bhd bmv bod pl cr tk se (by first | assumption | omega) s.heap.size) (zcwV 0 htz zq_561 zq_558 zq_560 zp_22 zq_6 (by decide +kernel) ⟨Nat.le_of_ble_eq_true rfl, Nat.le_of_ble_eq_true rfl⟩) 0 3 rfl rfl [0, 1] [] rfl rfl rfl (by decide) rfl hl.1 rfl (Nat.le_of_ble_eq_true rfl) zd_M_counts_1 ⟨Nat.le_of_ble_eq_true rfl, Nat.le_of_ble_eq_true rfl⟩ (fun r u H locs hw hP hD hS => ?_)
  rcases hw with ⟨rfl, rfl, hw1_⟩ | ⟨rfl, rfl, hw2_⟩
  · have hP : va_P (dC, dI) zcl [(md, .inr (3, [.int th, .int (nI n), .ref bw, .ref bf, .ref bv, .ref bz, .int (nI kn), .ref bsp, .ref bdt, .ref bdr, .ref bhd, .ref bmv, .ref bod, .int (nI pl), .int (nI cr), .int (nI tk)])), (bz, .inl (cZ, 16, .inl se))] H := hP
    have hD : va_D A [(md, .inr (3, [.int th, .int (nI n), .ref bw, .ref bf, .ref bv, .ref bz, .int (nI kn), .ref bsp, .ref bdt, .ref bdr, .ref bhd, .ref bmv, .ref bod, .int (nI pl), .int (nI cr), .int (nI tk)])), (bz, .inl (cZ, 16, .inl se))] := hD
    have hw9 := hw1_
    refine lv_istore_n (lv' := [(2, .int (nI (zwin se n))), (0, .ref md), (1, .int (nI j))]) hx hb zd_M_counts_4 rfl hl (by decide) rfl (fun ls hl => ?_)
    refine lv_iload_n hx hb zd_M_counts_5 rfl (lv_at hl 0 rfl) ?_
    refine lv_iconst (v := (-1)) hx hb zd_M_counts_6 (by decide) ?_
    refine lv_icmp_eq (tgt := 15) hx hb zd_M_counts_7 (by decide) (fun c3_ => absurd c3_ (nI_nm1 (by omega))) (fun c3_ => ?_)
    refine lv_iload_n hx hb zd_M_counts_10 rfl (lv_at hl 2 rfl) ?_
    refine lv_iload_n hx hb zd_M_counts_11 rfl (lv_at hl 0 rfl) ?_
    refine lv_icmp_gt (tgt := 19) hx hb zd_M_counts_12 (by decide) (fun c4_ => ?_) (fun c4_ => ?_)
    · have hb9 : zwin se n < j := Nat.lt_of_not_le (fun h => nI_nlt h (by omega) c4_)
      refine lv_iconst (v := (nI 0)) hx hb zd_M_counts_19 (by decide) ?_
      exact z_zret hx hb hr hlocks hP hK hD hS zd_M_counts_20 (by decide) (by decide) rfl (Or.inr ⟨rfl, rfl, hb9⟩)
    · have hb9 : j ≤ zwin se n := Nat.le_of_not_lt (fun h => c4_ (nI_lt h (by omega)))
      refine lv_iconst (v := (nI 1)) hx hb zd_M_counts_15 (by decide) ?_
      refine lv_goto (tgt := 20) hx hb zd_M_counts_16 (by decide) ?_
      exact z_zret hx hb hr hlocks hP hK hD hS zd_M_counts_20 (by decide) (by decide) rfl (Or.inl ⟨rfl, rfl, by first | exact hb9 | omega⟩)
  · have hP : va_P (dC, dI) zcl [(md, .inr (3, [.int th, .int (nI n), .ref bw, .ref bf, .ref bv, .ref bz, .int (nI kn), .ref bsp, .ref bdt, .ref bdr, .ref bhd, .ref bmv, .ref bod, .int (nI pl), .int (nI cr), .int (nI tk)])), (bz, .inl (cZ, 16, .inl se))] H := hP
    have hD : va_D A [(md, .inr (3, [.int th, .int (nI n), .ref bw, .ref bf, .ref bv, .ref bz, .int (nI kn), .ref bsp, .ref bdt, .ref bdr, .ref bhd, .ref bmv, .ref bod, .int (nI pl), .int (nI cr), .int (nI tk)])), (bz, .inl (cZ, 16, .inl se))] := hD
    have hw9 := hw2_
    refine lv_istore_n (lv' := [(2, .int (-1)), (0, .ref md), (1, .int (nI j))]) hx hb zd_M_counts_4 rfl hl (by decide) rfl (fun ls hl => ?_)
    refine lv_iload_n hx hb zd_M_counts_5 rfl (lv_at hl 0 rfl) ?_
    refine lv_iconst (v := (-1)) hx hb zd_M_counts_6 (by decide) ?_
    refine lv_icmp_eq (tgt := 15) hx hb zd_M_counts_7 (by decide) (fun c5_ => ?_) (fun c5_ => absurd rfl c5_)
    refine lv_iconst (v := (nI 1)) hx hb zd_M_counts_15 (by decide) ?_
    refine lv_goto (tgt := 20) hx hb zd_M_counts_16 (by decide) ?_
    exact z_zret hx hb hr hlocks hP hK hD hS zd_M_counts_20 (by decide) (by decide) rfl (Or.inl ⟨rfl, rfl, by first | exact hb9 | omega⟩)
