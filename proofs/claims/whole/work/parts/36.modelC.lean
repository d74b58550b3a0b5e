set_option maxHeartbeats 4000000 in
set_option maxRecDepth 100000 in
/--  -/
theorem k_Model_value (l : Launch) (dC : Nat → ClassId) (dI : Nat → Nat → Nat) (cI cJ cZ : ClassId) (md : Nat) (th : Int32) (n : Nat) (bw : Nat) (bf : Nat) (bv : Nat) (bz : Nat) (kn : Nat) (bsp : Nat) (bdt : Nat) (bdr : Nat) (bhd : Nat) (bmv : Nat) (bod : Nat) (pl : Nat) (cr : Nat) (tk : Nat) (wk : Nat → Int32) (wo : Nat → Int64) (se : Nat → Int32) (sh : Int32) (w : Int32) (v : Int64) (b : Int32) (hn : n ≤ 16) (hkn : kn ≤ 1) (hbb : vp_nar .boolean b = b) (sz : Nat) : zMi l zy_M_value zw_M_value ({ frames := 1, cells := 0, slots := 0, locals := 22 }) [.ref md, .int sh, .int w, .long v, .int b] (dC, dI) zcl [(cI, .int), (cJ, .long), (cZ, .boolean)] [(md, .inr (3, [.int th, .int (nI n), .ref bw, .ref bf, .ref bv, .ref bz, .int (nI kn), .ref bsp, .ref bdt, .ref bdr, .ref bhd, .ref bmv, .ref bod, .int (nI pl), .int (nI cr), .int (nI tk)])), (bw, .inl (cI, 16, .inl wk)), (bv, .inl (cJ, 16, .inr (.inl wo))), (bz, .inl (cZ, 16, .inl se))] sz (fun (r : Int32) (u : va_W) => r = nI (zvo n wk wo se sh w v b) ∧ u = [(md, .inr (3, [.int (nI (zvth n sh w)), .int (nI n), .ref bw, .ref bf, .ref bv, .ref bz, .int (nI (zk2 (zvo n wk wo se sh w v b) kn)), .ref bsp, .ref bdt, .ref bdr, .ref bhd, .ref bmv, .ref bod, .int (nI pl), .int (nI cr), .int (nI tk)])), (bw, .inl (cI, 16, .inl (zup (zvth n sh w) wk sh.toNatClampNeg w))), (bv, .inl (cJ, 16, .inr (.inl (zupL (zvth n sh w) wo sh.toNatClampNeg v)))), (bz, .inl (cZ, 16, .inl (zup (zvth n sh w) se sh.toNatClampNeg b)))]) := by
  refine z_ofi (cc := zc_M_value) (maxL := 7) (ret := (some .boolean)) (by decide) rfl (Nat.le_of_ble_eq_true rfl) ?_
  intro p e s m below meth c A ls hx hb hr hml hown htz hlocks hin hA hP hK hD hS hl
  have hown : s.vm.findClass zR_M = some m.cls := hown
  have hl : lv_has ls 7 [(0, .ref md), (1, .int sh), (2, .int w), (3, .long v), (5, .int b)] := hl
  refine lv_aload_n hx hb zd_M_value_0 rfl (lv_at hl 0 rfl) ?_
  refine lv_aload_n hx hb zd_M_value_1 rfl (lv_at hl 0 rfl) ?_
  refine lv_iload_n hx hb zd_M_value_2 rfl (lv_at hl 1 rfl) ?_
  refine z_Vi (As := [.int sh]) (rest := [.ref md]) (wc := [(md, .inr (3, [.int th, .int (nI n), .ref bw, .ref bf, .ref bv, .ref bz, .int (nI kn), .ref bsp, .ref bdt, .ref bdr, .ref bhd, .ref bmv, .ref bod, .int (nI pl), .int (nI cr), .int (nI tk)]))]) (wr := [(bw, .inl (cI, 16, .inl wk)), (bv, .inl (cJ, 16, .inr (.inl wo))), (bz, .inl (cZ, 16, .inl se))]) ⟨hx, hb, hml, hown, htz⟩ hK hP hD hS hA (k_Model_isShare l dC dI cI cJ cZ md th n bw bf bv bz kn bsp bdt bdr bhd bmv bod pl cr tk sh (by first | assumption | omega) s.heap.size) (zcwV 1 htz zq_519 zq_516 zq_518 zp_14 zq_6 (by decide +kernel) ⟨Nat.le_of_ble_eq_true rfl, Nat.le_of_ble_eq_true rfl⟩) 0 3 rfl rfl [0] [1, 2, 3] rfl rfl rfl (by decide) rfl hl.1 rfl (Nat.le_of_ble_eq_true rfl) zd_M_value_3 ⟨Nat.le_of_ble_eq_true rfl, Nat.le_of_ble_eq_true rfl⟩ (fun r u H locs hw hP hD hS => ?_)
  rcases hw with ⟨j1_, rfl, rfl, hj2_, rfl⟩ | ⟨rfl, rfl, hno3_⟩
  · have hP : va_P (dC, dI) zcl [(bw, .inl (cI, 16, .inl wk)), (bv, .inl (cJ, 16, .inr (.inl wo))), (bz, .inl (cZ, 16, .inl se)), (md, .inr (3, [.int th, .int (nI n), .ref bw, .ref bf, .ref bv, .ref bz, .int (nI kn), .ref bsp, .ref bdt, .ref bdr, .ref bhd, .ref bmv, .ref bod, .int (nI pl), .int (nI cr), .int (nI tk)]))] H := hP
    have hD : va_D A [(bw, .inl (cI, 16, .inl wk)), (bv, .inl (cJ, 16, .inr (.inl wo))), (bz, .inl (cZ, 16, .inl se)), (md, .inr (3, [.int th, .int (nI n), .ref bw, .ref bf, .ref bv, .ref bz, .int (nI kn), .ref bsp, .ref bdt, .ref bdr, .ref bhd, .ref bmv, .ref bod, .int (nI pl), .int (nI cr), .int (nI tk)]))] := hD
    refine lv_if_ne (tgt := 13) hx hb zd_M_value_6 (by decide) (fun _ => ?_) (fun c4_ => absurd c4_ (by decide))
    refine lv_iconst (v := (nI 0)) hx hb zd_M_value_13 (by decide) ?_
    refine lv_iload_n hx hb zd_M_value_14 rfl (lv_at hl 2 rfl) ?_
    refine lv_iconst (v := (nI 1)) hx hb zd_M_value_15 (by decide) ?_
    refine lv_icmp_lt (tgt := 25) hx hb zd_M_value_16 (by decide) (fun c5_ => ?_) (fun c5_ => ?_)
    · have hT : zvth n (nI j1_) w = 2 := zvth_2 (by omega) hj2_ (Or.inl c5_)
      refine lv_iconst (v := (nI 1)) hx hb zd_M_value_25 (by decide) ?_
      refine lv_goto (tgt := 30) hx hb zd_M_value_26 (by decide) ?_
      refine z_Vi (As := [.int (nI 0), .int (nI 1)]) (rest := []) (wc := [(md, .inr (3, [.int th, .int (nI n), .ref bw, .ref bf, .ref bv, .ref bz, .int (nI kn), .ref bsp, .ref bdt, .ref bdr, .ref bhd, .ref bmv, .ref bod, .int (nI pl), .int (nI cr), .int (nI tk)]))]) (wr := [(bw, .inl (cI, 16, .inl wk)), (bv, .inl (cJ, 16, .inr (.inl wo))), (bz, .inl (cZ, 16, .inl se))]) ⟨hx, hb, hml, hown, htz⟩ hK hP hD hS hA (k_Model_fails_2 l dC dI cI cJ cZ md th n bw bf bv bz kn bsp bdt bdr bhd bmv bod pl cr tk H.size) (zcwV 2 htz zq_523 zq_520 zq_522 zp_15 zq_6 (by decide +kernel) ⟨Nat.le_of_ble_eq_true rfl, Nat.le_of_ble_eq_true rfl⟩) 3 3 rfl rfl [3] [0, 1, 2] rfl rfl rfl (by decide) rfl hl.1 rfl (Nat.le_of_ble_eq_true rfl) zd_M_value_30 ⟨Nat.le_of_ble_eq_true rfl, Nat.le_of_ble_eq_true rfl⟩ (fun r u H locs hw hP hD hS => ?_)
      obtain ⟨rfl, rfl⟩ := hw
      have hP : va_P (dC, dI) zcl [(bw, .inl (cI, 16, .inl wk)), (bv, .inl (cJ, 16, .inr (.inl wo))), (bz, .inl (cZ, 16, .inl se)), (md, .inr (3, [.int (nI 2), .int (nI n), .ref bw, .ref bf, .ref bv, .ref bz, .int (nI kn), .ref bsp, .ref bdt, .ref bdr, .ref bhd, .ref bmv, .ref bod, .int (nI pl), .int (nI cr), .int (nI tk)]))] H := hP
      have hD : va_D A [(bw, .inl (cI, 16, .inl wk)), (bv, .inl (cJ, 16, .inr (.inl wo))), (bz, .inl (cZ, 16, .inl se)), (md, .inr (3, [.int (nI 2), .int (nI n), .ref bw, .ref bf, .ref bv, .ref bz, .int (nI kn), .ref bsp, .ref bdt, .ref bdr, .ref bhd, .ref bmv, .ref bod, .int (nI pl), .int (nI cr), .int (nI tk)]))] := hD
      refine lv_if_eq (tgt := 38) hx hb zd_M_value_33 (by decide) (fun c6_ => absurd c6_ (by decide)) (fun _ => ?_)
      refine lv_iconst (v := (nI 0)) hx hb zd_M_value_36 (by decide) ?_
      have hP := hP.sub (ws' := [(md, .inr (3, [.int (nI 2), .int (nI n), .ref bw, .ref bf, .ref bv, .ref bz, .int (nI kn), .ref bsp, .ref bdt, .ref bdr, .ref bhd, .ref bmv, .ref bod, .int (nI pl), .int (nI cr), .int (nI tk)])), (bw, .inl (cI, 16, .inl wk)), (bv, .inl (cJ, 16, .inr (.inl wo))), (bz, .inl (cZ, 16, .inl se))]) [3, 0, 1, 2] rfl
      have hD := hD.sub (ws' := [(md, .inr (3, [.int (nI 2), .int (nI n), .ref bw, .ref bf, .ref bv, .ref bz, .int (nI kn), .ref bsp, .ref bdt, .ref bdr, .ref bhd, .ref bmv, .ref bod, .int (nI pl), .int (nI cr), .int (nI tk)])), (bw, .inl (cI, 16, .inl wk)), (bv, .inl (cJ, 16, .inr (.inl wo))), (bz, .inl (cZ, 16, .inl se))]) [3, 0, 1, 2] (by decide) rfl
      exact z_zret hx hb hr hlocks hP hK hD hS zd_M_value_37 (by decide) (by decide) rfl ⟨by rw [zvo_t (by rw [hT]; decide)], by rw [zvo_t (by rw [hT]; decide), hT]; first | done | rfl⟩
    · have hlo := c5_
      refine lv_iload_n hx hb zd_M_value_19 rfl (lv_at hl 2 rfl) ?_
      refine lv_bipush (v := (nI 100)) hx hb zd_M_value_20 (by decide) ?_
      refine lv_icmp_le (tgt := 29) hx hb zd_M_value_22 (by decide) (fun c7_ => ?_) (fun c7_ => ?_)
      · have hT : zvth n (nI j1_) w = 0 := zvth_0 (by omega) hj2_ hlo (z_nlt c7_)
        refine lv_iconst (v := (nI 0)) hx hb zd_M_value_29 (by decide) ?_
        refine z_Vi (As := [.int (nI 0), .int (nI 0)]) (rest := []) (wc := [(md, .inr (3, [.int th, .int (nI n), .ref bw, .ref bf, .ref bv, .ref bz, .int (nI kn), .ref bsp, .ref bdt, .ref bdr, .ref bhd, .ref bmv, .ref bod, .int (nI pl), .int (nI cr), .int (nI tk)]))]) (wr := [(bw, .inl (cI, 16, .inl wk)), (bv, .inl (cJ, 16, .inr (.inl wo))), (bz, .inl (cZ, 16, .inl se))]) ⟨hx, hb, hml, hown, htz⟩ hK hP hD hS hA (k_Model_fails_0 l dC dI cI cJ cZ md th n bw bf bv bz kn bsp bdt bdr bhd bmv bod pl cr tk H.size) (zcwV 2 htz zq_523 zq_520 zq_522 zp_15 zq_6 (by decide +kernel) ⟨Nat.le_of_ble_eq_true rfl, Nat.le_of_ble_eq_true rfl⟩) 3 3 rfl rfl [3] [0, 1, 2] rfl rfl rfl (by decide) rfl hl.1 rfl (Nat.le_of_ble_eq_true rfl) zd_M_value_30 ⟨Nat.le_of_ble_eq_true rfl, Nat.le_of_ble_eq_true rfl⟩ (fun r u H locs hw hP hD hS => ?_)
        obtain ⟨rfl, rfl⟩ := hw
        have hP : va_P (dC, dI) zcl [(bw, .inl (cI, 16, .inl wk)), (bv, .inl (cJ, 16, .inr (.inl wo))), (bz, .inl (cZ, 16, .inl se)), (md, .inr (3, [.int (nI 0), .int (nI n), .ref bw, .ref bf, .ref bv, .ref bz, .int (nI kn), .ref bsp, .ref bdt, .ref bdr, .ref bhd, .ref bmv, .ref bod, .int (nI pl), .int (nI cr), .int (nI tk)]))] H := hP
        have hD : va_D A [(bw, .inl (cI, 16, .inl wk)), (bv, .inl (cJ, 16, .inr (.inl wo))), (bz, .inl (cZ, 16, .inl se)), (md, .inr (3, [.int (nI 0), .int (nI n), .ref bw, .ref bf, .ref bv, .ref bz, .int (nI kn), .ref bsp, .ref bdt, .ref bdr, .ref bhd, .ref bmv, .ref bod, .int (nI pl), .int (nI cr), .int (nI tk)]))] := hD
        refine lv_if_eq (tgt := 38) hx hb zd_M_value_33 (by decide) (fun _ => ?_) (fun c8_ => absurd (by decide) c8_)
        refine lv_aload_n hx hb zd_M_value_38 rfl (lv_at hl 0 rfl) ?_
        refine va_get (D := (dC, dI)) (ci := 3) (v := .ref bw) (C := zR_M) (T := zF_M) (N := 16) hx hb htz zi_M hown hK hP 3 rfl rfl 2 (by decide) (htz _ zq_461) (fun _ h9 => h9) rfl zd_M_value_39 ?_
        refine lv_iload_n hx hb zd_M_value_42 rfl (lv_at hl 1 rfl) ?_
        refine z_iald hx hb hK hP 0 0 rfl rfl (j := j1_) (by omega) (by decide) zd_M_value_43 ?_
        refine lv_iload_n hx hb zd_M_value_44 rfl (lv_at hl 2 rfl) ?_
        refine lv_icmp_ne (tgt := 70) hx hb zd_M_value_45 (by decide) (fun c9_ => ?_) (fun c9_ => ?_)
        · have hO : zvo n wk wo se (nI j1_) w v b = 1 := zvo_1 (by omega) hT (fun h => c9_ h.1)
          refine lv_iconst (v := (nI 1)) hx hb zd_M_value_70 (by decide) ?_
          refine lv_goto (tgt := 75) hx hb zd_M_value_71 (by decide) ?_
          refine lv_istore (lv' := [(6, .int (nI 1)), (0, .ref md), (1, .int (nI j1_)), (2, .int w), (3, .long v), (5, .int b)]) hx hb zd_M_value_75 hl (by decide) rfl (fun ls hl => ?_)
          refine lv_aload_n hx hb zd_M_value_77 rfl (lv_at hl 1 rfl) ?_
          refine va_get (D := (dC, dI)) (ci := 3) (v := .ref bw) (C := zR_M) (T := zF_M) (N := 16) hx hb htz zi_M hown hK hP 3 rfl rfl 2 (by decide) (htz _ zq_461) (fun _ h9 => h9) rfl zd_M_value_78 ?_
          refine lv_iload_n hx hb zd_M_value_81 rfl (lv_at hl 2 rfl) ?_
          refine lv_iload_n hx hb zd_M_value_82 rfl (lv_at hl 3 rfl) ?_
          refine z_iast hx hb hK hP hD hS 0 0 rfl rfl (j := j1_) (by omega) (by decide) zd_M_value_83 (fun H locs hP hD hS => ?_)
          have hP : va_P (dC, dI) zcl [(bw, .inl (cI, 16, .inl (upd wk j1_ w))), (bv, .inl (cJ, 16, .inr (.inl wo))), (bz, .inl (cZ, 16, .inl se)), (md, .inr (3, [.int (nI 0), .int (nI n), .ref bw, .ref bf, .ref bv, .ref bz, .int (nI kn), .ref bsp, .ref bdt, .ref bdr, .ref bhd, .ref bmv, .ref bod, .int (nI pl), .int (nI cr), .int (nI tk)]))] H := hP
          have hD : va_D A [(bw, .inl (cI, 16, .inl (upd wk j1_ w))), (bv, .inl (cJ, 16, .inr (.inl wo))), (bz, .inl (cZ, 16, .inl se)), (md, .inr (3, [.int (nI 0), .int (nI n), .ref bw, .ref bf, .ref bv, .ref bz, .int (nI kn), .ref bsp, .ref bdt, .ref bdr, .ref bhd, .ref bmv, .ref bod, .int (nI pl), .int (nI cr), .int (nI tk)]))] := hD
          refine lv_aload_n hx hb zd_M_value_84 rfl (lv_at hl 1 rfl) ?_
          refine va_get (D := (dC, dI)) (ci := 3) (v := .ref bv) (C := zR_M) (T := zF_M) (N := 16) hx hb htz zi_M hown hK hP 3 rfl rfl 4 (by decide) (htz _ zq_463) (fun _ h9 => h9) rfl zd_M_value_85 ?_
          refine lv_iload_n hx hb zd_M_value_88 rfl (lv_at hl 2 rfl) ?_
          refine lv_lload_n hx hb zd_M_value_89 rfl (lv_at hl 4 rfl) ?_
          refine z_last hx hb hK hP hD hS 1 1 rfl rfl (j := j1_) (by omega) (by decide) zd_M_value_90 (fun H locs hP hD hS => ?_)
          have hP : va_P (dC, dI) zcl [(bw, .inl (cI, 16, .inl (upd wk j1_ w))), (bv, .inl (cJ, 16, .inr (.inl (vp_updL wo j1_ v)))), (bz, .inl (cZ, 16, .inl se)), (md, .inr (3, [.int (nI 0), .int (nI n), .ref bw, .ref bf, .ref bv, .ref bz, .int (nI kn), .ref bsp, .ref bdt, .ref bdr, .ref bhd, .ref bmv, .ref bod, .int (nI pl), .int (nI cr), .int (nI tk)]))] H := hP
          have hD : va_D A [(bw, .inl (cI, 16, .inl (upd wk j1_ w))), (bv, .inl (cJ, 16, .inr (.inl (vp_updL wo j1_ v)))), (bz, .inl (cZ, 16, .inl se)), (md, .inr (3, [.int (nI 0), .int (nI n), .ref bw, .ref bf, .ref bv, .ref bz, .int (nI kn), .ref bsp, .ref bdt, .ref bdr, .ref bhd, .ref bmv, .ref bod, .int (nI pl), .int (nI cr), .int (nI tk)]))] := hD
          refine lv_aload_n hx hb zd_M_value_91 rfl (lv_at hl 1 rfl) ?_
          refine va_get (D := (dC, dI)) (ci := 3) (v := .ref bz) (C := zR_M) (T := zF_M) (N := 16) hx hb htz zi_M hown hK hP 3 rfl rfl 5 (by decide) (htz _ zq_464) (fun _ h9 => h9) rfl zd_M_value_92 ?_
          refine lv_iload_n hx hb zd_M_value_95 rfl (lv_at hl 2 rfl) ?_
          refine lv_iload hx hb zd_M_value_96 (lv_at hl 5 rfl) ?_
          refine z_zast hx hb hK hP hD hS 2 2 rfl rfl (j := j1_) (by omega) (by decide) hbb zd_M_value_98 (fun H locs hP hD hS => ?_)
          have hP : va_P (dC, dI) zcl [(bw, .inl (cI, 16, .inl (upd wk j1_ w))), (bv, .inl (cJ, 16, .inr (.inl (vp_updL wo j1_ v)))), (bz, .inl (cZ, 16, .inl (upd se j1_ b))), (md, .inr (3, [.int (nI 0), .int (nI n), .ref bw, .ref bf, .ref bv, .ref bz, .int (nI kn), .ref bsp, .ref bdt, .ref bdr, .ref bhd, .ref bmv, .ref bod, .int (nI pl), .int (nI cr), .int (nI tk)]))] H := hP
          have hD : va_D A [(bw, .inl (cI, 16, .inl (upd wk j1_ w))), (bv, .inl (cJ, 16, .inr (.inl (vp_updL wo j1_ v)))), (bz, .inl (cZ, 16, .inl (upd se j1_ b))), (md, .inr (3, [.int (nI 0), .int (nI n), .ref bw, .ref bf, .ref bv, .ref bz, .int (nI kn), .ref bsp, .ref bdt, .ref bdr, .ref bhd, .ref bmv, .ref bod, .int (nI pl), .int (nI cr), .int (nI tk)]))] := hD
          refine lv_aload_n hx hb zd_M_value_99 rfl (lv_at hl 1 rfl) ?_
          refine lv_aload_n hx hb zd_M_value_100 rfl (lv_at hl 1 rfl) ?_
          refine va_get (D := (dC, dI)) (ci := 3) (v := .int (nI kn)) (C := zR_M) (T := zF_M) (N := 16) hx hb htz zi_M hown hK hP 3 rfl rfl 6 (by decide) (htz _ zq_465) (fun _ h9 => h9) rfl zd_M_value_101 ?_
          refine lv_if_eq (tgt := 116) hx hb zd_M_value_104 (by decide) (fun c10_ => ?_) (fun c10_ => ?_)
          · have hk9 : kn = 0 := (nI_eq (b := 0) (by omega) (by decide)).mp c10_
            refine lv_iconst (v := (nI 0)) hx hb zd_M_value_116 (by decide) ?_
            refine va_put (D := (dC, dI)) (ci := 3) (v := .int (nI 0)) (ty := .boolean) (C := zR_M) (T := zF_M) (N := 16) hx hb htz zi_M zt_M zt_M_ok zn_M hown hK hP hD hS 3 rfl rfl 6 (by decide) (htz _ zq_465) (fun _ h9 => h9) rfl (by decide +kernel) rfl rfl (Nat.le_of_ble_eq_true rfl) zd_M_value_117 (fun H locs hP hD hS => ?_)
            have hP : va_P (dC, dI) zcl [(bw, .inl (cI, 16, .inl (upd wk j1_ w))), (bv, .inl (cJ, 16, .inr (.inl (vp_updL wo j1_ v)))), (bz, .inl (cZ, 16, .inl (upd se j1_ b))), (md, .inr (3, [.int (nI 0), .int (nI n), .ref bw, .ref bf, .ref bv, .ref bz, .int (nI 0), .ref bsp, .ref bdt, .ref bdr, .ref bhd, .ref bmv, .ref bod, .int (nI pl), .int (nI cr), .int (nI tk)]))] H := hP
            have hD : va_D A [(bw, .inl (cI, 16, .inl (upd wk j1_ w))), (bv, .inl (cJ, 16, .inr (.inl (vp_updL wo j1_ v)))), (bz, .inl (cZ, 16, .inl (upd se j1_ b))), (md, .inr (3, [.int (nI 0), .int (nI n), .ref bw, .ref bf, .ref bv, .ref bz, .int (nI 0), .ref bsp, .ref bdt, .ref bdr, .ref bhd, .ref bmv, .ref bod, .int (nI pl), .int (nI cr), .int (nI tk)]))] := hD
            refine lv_iload hx hb zd_M_value_120 (lv_at hl 0 rfl) ?_
            have hP := hP.sub (ws' := [(md, .inr (3, [.int (nI 0), .int (nI n), .ref bw, .ref bf, .ref bv, .ref bz, .int (nI 0), .ref bsp, .ref bdt, .ref bdr, .ref bhd, .ref bmv, .ref bod, .int (nI pl), .int (nI cr), .int (nI tk)])), (bw, .inl (cI, 16, .inl (upd wk j1_ w))), (bv, .inl (cJ, 16, .inr (.inl (vp_updL wo j1_ v)))), (bz, .inl (cZ, 16, .inl (upd se j1_ b)))]) [3, 0, 1, 2] rfl
            have hD := hD.sub (ws' := [(md, .inr (3, [.int (nI 0), .int (nI n), .ref bw, .ref bf, .ref bv, .ref bz, .int (nI 0), .ref bsp, .ref bdt, .ref bdr, .ref bhd, .ref bmv, .ref bod, .int (nI pl), .int (nI cr), .int (nI tk)])), (bw, .inl (cI, 16, .inl (upd wk j1_ w))), (bv, .inl (cJ, 16, .inr (.inl (vp_updL wo j1_ v)))), (bz, .inl (cZ, 16, .inl (upd se j1_ b)))]) [3, 0, 1, 2] (by decide) rfl
            exact z_zret hx hb hr hlocks hP hK hD hS zd_M_value_122 (by decide) (by decide) rfl ⟨by rw [hO], by rw [hO, hT, nI_clamp (by omega), hk9]; first | done | rfl⟩
          · have hk9 : kn = 1 := by have : ¬ kn = 0 := (fun h => c10_ (by rw [h]; rfl)); omega
            refine lv_iload hx hb zd_M_value_107 (lv_at hl 0 rfl) ?_
            refine lv_if_ne (tgt := 116) hx hb zd_M_value_109 (by decide) (fun _ => ?_) (fun c11_ => absurd c11_ (by decide))
            refine lv_iconst (v := (nI 0)) hx hb zd_M_value_116 (by decide) ?_
            refine va_put (D := (dC, dI)) (ci := 3) (v := .int (nI 0)) (ty := .boolean) (C := zR_M) (T := zF_M) (N := 16) hx hb htz zi_M zt_M zt_M_ok zn_M hown hK hP hD hS 3 rfl rfl 6 (by decide) (htz _ zq_465) (fun _ h9 => h9) rfl (by decide +kernel) rfl rfl (Nat.le_of_ble_eq_true rfl) zd_M_value_117 (fun H locs hP hD hS => ?_)
            have hP : va_P (dC, dI) zcl [(bw, .inl (cI, 16, .inl (upd wk j1_ w))), (bv, .inl (cJ, 16, .inr (.inl (vp_updL wo j1_ v)))), (bz, .inl (cZ, 16, .inl (upd se j1_ b))), (md, .inr (3, [.int (nI 0), .int (nI n), .ref bw, .ref bf, .ref bv, .ref bz, .int (nI 0), .ref bsp, .ref bdt, .ref bdr, .ref bhd, .ref bmv, .ref bod, .int (nI pl), .int (nI cr), .int (nI tk)]))] H := hP
            have hD : va_D A [(bw, .inl (cI, 16, .inl (upd wk j1_ w))), (bv, .inl (cJ, 16, .inr (.inl (vp_updL wo j1_ v)))), (bz, .inl (cZ, 16, .inl (upd se j1_ b))), (md, .inr (3, [.int (nI 0), .int (nI n), .ref bw, .ref bf, .ref bv, .ref bz, .int (nI 0), .ref bsp, .ref bdt, .ref bdr, .ref bhd, .ref bmv, .ref bod, .int (nI pl), .int (nI cr), .int (nI tk)]))] := hD
            refine lv_iload hx hb zd_M_value_120 (lv_at hl 0 rfl) ?_
            have hP := hP.sub (ws' := [(md, .inr (3, [.int (nI 0), .int (nI n), .ref bw, .ref bf, .ref bv, .ref bz, .int (nI 0), .ref bsp, .ref bdt, .ref bdr, .ref bhd, .ref bmv, .ref bod, .int (nI pl), .int (nI cr), .int (nI tk)])), (bw, .inl (cI, 16, .inl (upd wk j1_ w))), (bv, .inl (cJ, 16, .inr (.inl (vp_updL wo j1_ v)))), (bz, .inl (cZ, 16, .inl (upd se j1_ b)))]) [3, 0, 1, 2] rfl
            have hD := hD.sub (ws' := [(md, .inr (3, [.int (nI 0), .int (nI n), .ref bw, .ref bf, .ref bv, .ref bz, .int (nI 0), .ref bsp, .ref bdt, .ref bdr, .ref bhd, .ref bmv, .ref bod, .int (nI pl), .int (nI cr), .int (nI tk)])), (bw, .inl (cI, 16, .inl (upd wk j1_ w))), (bv, .inl (cJ, 16, .inr (.inl (vp_updL wo j1_ v)))), (bz, .inl (cZ, 16, .inl (upd se j1_ b)))]) [3, 0, 1, 2] (by decide) rfl
            exact z_zret hx hb hr hlocks hP hK hD hS zd_M_value_122 (by decide) (by decide) rfl ⟨by rw [hO], by rw [hO, hT, nI_clamp (by omega), hk9]; first | done | rfl⟩
        · have h1_ := c9_
          refine lv_aload_n hx hb zd_M_value_48 rfl (lv_at hl 0 rfl) ?_
          refine va_get (D := (dC, dI)) (ci := 3) (v := .ref bv) (C := zR_M) (T := zF_M) (N := 16) hx hb htz zi_M hown hK hP 3 rfl rfl 4 (by decide) (htz _ zq_463) (fun _ h9 => h9) rfl zd_M_value_49 ?_
          refine lv_iload_n hx hb zd_M_value_52 rfl (lv_at hl 1 rfl) ?_
          refine z_lald hx hb hK hP 1 1 rfl rfl (j := j1_) (by omega) (by decide) zd_M_value_53 ?_
          refine lv_lload_n hx hb zd_M_value_54 rfl (lv_at hl 3 rfl) ?_
          refine W.lcmp hx hb zd_M_value_55 ?_
          refine lv_if_ne (tgt := 70) hx hb zd_M_value_56 (by decide) (fun c12_ => ?_) (fun c12_ => ?_)
          · have hO : zvo n wk wo se (nI j1_) w v b = 1 := zvo_1 (by omega) hT (fun h => c12_ ((lg_cmp_eq _ _).mpr h.2.1))
            refine lv_iconst (v := (nI 1)) hx hb zd_M_value_70 (by decide) ?_
            refine lv_goto (tgt := 75) hx hb zd_M_value_71 (by decide) ?_
            refine lv_istore (lv' := [(6, .int (nI 1)), (0, .ref md), (1, .int (nI j1_)), (2, .int w), (3, .long v), (5, .int b)]) hx hb zd_M_value_75 hl (by decide) rfl (fun ls hl => ?_)
            refine lv_aload_n hx hb zd_M_value_77 rfl (lv_at hl 1 rfl) ?_
            refine va_get (D := (dC, dI)) (ci := 3) (v := .ref bw) (C := zR_M) (T := zF_M) (N := 16) hx hb htz zi_M hown hK hP 3 rfl rfl 2 (by decide) (htz _ zq_461) (fun _ h9 => h9) rfl zd_M_value_78 ?_
            refine lv_iload_n hx hb zd_M_value_81 rfl (lv_at hl 2 rfl) ?_
            refine lv_iload_n hx hb zd_M_value_82 rfl (lv_at hl 3 rfl) ?_
            refine z_iast hx hb hK hP hD hS 0 0 rfl rfl (j := j1_) (by omega) (by decide) zd_M_value_83 (fun H locs hP hD hS => ?_)
            have hP : va_P (dC, dI) zcl [(bw, .inl (cI, 16, .inl (upd wk j1_ w))), (bv, .inl (cJ, 16, .inr (.inl wo))), (bz, .inl (cZ, 16, .inl se)), (md, .inr (3, [.int (nI 0), .int (nI n), .ref bw, .ref bf, .ref bv, .ref bz, .int (nI kn), .ref bsp, .ref bdt, .ref bdr, .ref bhd, .ref bmv, .ref bod, .int (nI pl), .int (nI cr), .int (nI tk)]))] H := hP
            have hD : va_D A [(bw, .inl (cI, 16, .inl (upd wk j1_ w))), (bv, .inl (cJ, 16, .inr (.inl wo))), (bz, .inl (cZ, 16, .inl se)), (md, .inr (3, [.int (nI 0), .int (nI n), .ref bw, .ref bf, .ref bv, .ref bz, .int (nI kn), .ref bsp, .ref bdt, .ref bdr, .ref bhd, .ref bmv, .ref bod, .int (nI pl), .int (nI cr), .int (nI tk)]))] := hD
            refine lv_aload_n hx hb zd_M_value_84 rfl (lv_at hl 1 rfl) ?_
            refine va_get (D := (dC, dI)) (ci := 3) (v := .ref bv) (C := zR_M) (T := zF_M) (N := 16) hx hb htz zi_M hown hK hP 3 rfl rfl 4 (by decide) (htz _ zq_463) (fun _ h9 => h9) rfl zd_M_value_85 ?_
            refine lv_iload_n hx hb zd_M_value_88 rfl (lv_at hl 2 rfl) ?_
            refine lv_lload_n hx hb zd_M_value_89 rfl (lv_at hl 4 rfl) ?_
            refine z_last hx hb hK hP hD hS 1 1 rfl rfl (j := j1_) (by omega) (by decide) zd_M_value_90 (fun H locs hP hD hS => ?_)
            have hP : va_P (dC, dI) zcl [(bw, .inl (cI, 16, .inl (upd wk j1_ w))), (bv, .inl (cJ, 16, .inr (.inl (vp_updL wo j1_ v)))), (bz, .inl (cZ, 16, .inl se)), (md, .inr (3, [.int (nI 0), .int (nI n), .ref bw, .ref bf, .ref bv, .ref bz, .int (nI kn), .ref bsp, .ref bdt, .ref bdr, .ref bhd, .ref bmv, .ref bod, .int (nI pl), .int (nI cr), .int (nI tk)]))] H := hP
            have hD : va_D A [(bw, .inl (cI, 16, .inl (upd wk j1_ w))), (bv, .inl (cJ, 16, .inr (.inl (vp_updL wo j1_ v)))), (bz, .inl (cZ, 16, .inl se)), (md, .inr (3, [.int (nI 0), .int (nI n), .ref bw, .ref bf, .ref bv, .ref bz, .int (nI kn), .ref bsp, .ref bdt, .ref bdr, .ref bhd, .ref bmv, .ref bod, .int (nI pl), .int (nI cr), .int (nI tk)]))] := hD
            refine lv_aload_n hx hb zd_M_value_91 rfl (lv_at hl 1 rfl) ?_
            refine va_get (D := (dC, dI)) (ci := 3) (v := .ref bz) (C := zR_M) (T := zF_M) (N := 16) hx hb htz zi_M hown hK hP 3 rfl rfl 5 (by decide) (htz _ zq_464) (fun _ h9 => h9) rfl zd_M_value_92 ?_
            refine lv_iload_n hx hb zd_M_value_95 rfl (lv_at hl 2 rfl) ?_
            refine lv_iload hx hb zd_M_value_96 (lv_at hl 5 rfl) ?_
            refine z_zast hx hb hK hP hD hS 2 2 rfl rfl (j := j1_) (by omega) (by decide) hbb zd_M_value_98 (fun H locs hP hD hS => ?_)
            have hP : va_P (dC, dI) zcl [(bw, .inl (cI, 16, .inl (upd wk j1_ w))), (bv, .inl (cJ, 16, .inr (.inl (vp_updL wo j1_ v)))), (bz, .inl (cZ, 16, .inl (upd se j1_ b))), (md, .inr (3, [.int (nI 0), .int (nI n), .ref bw, .ref bf, .ref bv, .ref bz, .int (nI kn), .ref bsp, .ref bdt, .ref bdr, .ref bhd, .ref bmv, .ref bod, .int (nI pl), .int (nI cr), .int (nI tk)]))] H := hP
            have hD : va_D A [(bw, .inl (cI, 16, .inl (upd wk j1_ w))), (bv, .inl (cJ, 16, .inr (.inl (vp_updL wo j1_ v)))), (bz, .inl (cZ, 16, .inl (upd se j1_ b))), (md, .inr (3, [.int (nI 0), .int (nI n), .ref bw, .ref bf, .ref bv, .ref bz, .int (nI kn), .ref bsp, .ref bdt, .ref bdr, .ref bhd, .ref bmv, .ref bod, .int (nI pl), .int (nI cr), .int (nI tk)]))] := hD
            refine lv_aload_n hx hb zd_M_value_99 rfl (lv_at hl 1 rfl) ?_
            refine lv_aload_n hx hb zd_M_value_100 rfl (lv_at hl 1 rfl) ?_
            refine va_get (D := (dC, dI)) (ci := 3) (v := .int (nI kn)) (C := zR_M) (T := zF_M) (N := 16) hx hb htz zi_M hown hK hP 3 rfl rfl 6 (by decide) (htz _ zq_465) (fun _ h9 => h9) rfl zd_M_value_101 ?_
            refine lv_if_eq (tgt := 116) hx hb zd_M_value_104 (by decide) (fun c13_ => ?_) (fun c13_ => ?_)
            · have hk9 : kn = 0 := (nI_eq (b := 0) (by omega) (by decide)).mp c13_
              refine lv_iconst (v := (nI 0)) hx hb zd_M_value_116 (by decide) ?_
              refine va_put (D := (dC, dI)) (ci := 3) (v := .int (nI 0)) (ty := .boolean) (C := zR_M) (T := zF_M) (N := 16) hx hb htz zi_M zt_M zt_M_ok zn_M hown hK hP hD hS 3 rfl rfl 6 (by decide) (htz _ zq_465) (fun _ h9 => h9) rfl (by decide +kernel) rfl rfl (Nat.le_of_ble_eq_true rfl) zd_M_value_117 (fun H locs hP hD hS => ?_)
              have hP : va_P (dC, dI) zcl [(bw, .inl (cI, 16, .inl (upd wk j1_ w))), (bv, .inl (cJ, 16, .inr (.inl (vp_updL wo j1_ v)))), (bz, .inl (cZ, 16, .inl (upd se j1_ b))), (md, .inr (3, [.int (nI 0), .int (nI n), .ref bw, .ref bf, .ref bv, .ref bz, .int (nI 0), .ref bsp, .ref bdt, .ref bdr, .ref bhd, .ref bmv, .ref bod, .int (nI pl), .int (nI cr), .int (nI tk)]))] H := hP
              have hD : va_D A [(bw, .inl (cI, 16, .inl (upd wk j1_ w))), (bv, .inl (cJ, 16, .inr (.inl (vp_updL wo j1_ v)))), (bz, .inl (cZ, 16, .inl (upd se j1_ b))), (md, .inr (3, [.int (nI 0), .int (nI n), .ref bw, .ref bf, .ref bv, .ref bz, .int (nI 0), .ref bsp, .ref bdt, .ref bdr, .ref bhd, .ref bmv, .ref bod, .int (nI pl), .int (nI cr), .int (nI tk)]))] := hD
              refine lv_iload hx hb zd_M_value_120 (lv_at hl 0 rfl) ?_
              have hP := hP.sub (ws' := [(md, .inr (3, [.int (nI 0), .int (nI n), .ref bw, .ref bf, .ref bv, .ref bz, .int (nI 0), .ref bsp, .ref bdt, .ref bdr, .ref bhd, .ref bmv, .ref bod, .int (nI pl), .int (nI cr), .int (nI tk)])), (bw, .inl (cI, 16, .inl (upd wk j1_ w))), (bv, .inl (cJ, 16, .inr (.inl (vp_updL wo j1_ v)))), (bz, .inl (cZ, 16, .inl (upd se j1_ b)))]) [3, 0, 1, 2] rfl
              have hD := hD.sub (ws' := [(md, .inr (3, [.int (nI 0), .int (nI n), .ref bw, .ref bf, .ref bv, .ref bz, .int (nI 0), .ref bsp, .ref bdt, .ref bdr, .ref bhd, .ref bmv, .ref bod, .int (nI pl), .int (nI cr), .int (nI tk)])), (bw, .inl (cI, 16, .inl (upd wk j1_ w))), (bv, .inl (cJ, 16, .inr (.inl (vp_updL wo j1_ v)))), (bz, .inl (cZ, 16, .inl (upd se j1_ b)))]) [3, 0, 1, 2] (by decide) rfl
              exact z_zret hx hb hr hlocks hP hK hD hS zd_M_value_122 (by decide) (by decide) rfl ⟨by rw [hO], by rw [hO, hT, nI_clamp (by omega), hk9]; first | done | rfl⟩
            · have hk9 : kn = 1 := by have : ¬ kn = 0 := (fun h => c13_ (by rw [h]; rfl)); omega
              refine lv_iload hx hb zd_M_value_107 (lv_at hl 0 rfl) ?_
              refine lv_if_ne (tgt := 116) hx hb zd_M_value_109 (by decide) (fun _ => ?_) (fun c14_ => absurd c14_ (by decide))
              refine lv_iconst (v := (nI 0)) hx hb zd_M_value_116 (by decide) ?_
              refine va_put (D := (dC, dI)) (ci := 3) (v := .int (nI 0)) (ty := .boolean) (C := zR_M) (T := zF_M) (N := 16) hx hb htz zi_M zt_M zt_M_ok zn_M hown hK hP hD hS 3 rfl rfl 6 (by decide) (htz _ zq_465) (fun _ h9 => h9) rfl (by decide +kernel) rfl rfl (Nat.le_of_ble_eq_true rfl) zd_M_value_117 (fun H locs hP hD hS => ?_)
              have hP : va_P (dC, dI) zcl [(bw, .inl (cI, 16, .inl (upd wk j1_ w))), (bv, .inl (cJ, 16, .inr (.inl (vp_updL wo j1_ v)))), (bz, .inl (cZ, 16, .inl (upd se j1_ b))), (md, .inr (3, [.int (nI 0), .int (nI n), .ref bw, .ref bf, .ref bv, .ref bz, .int (nI 0), .ref bsp, .ref bdt, .ref bdr, .ref bhd, .ref bmv, .ref bod, .int (nI pl), .int (nI cr), .int (nI tk)]))] H := hP
              have hD : va_D A [(bw, .inl (cI, 16, .inl (upd wk j1_ w))), (bv, .inl (cJ, 16, .inr (.inl (vp_updL wo j1_ v)))), (bz, .inl (cZ, 16, .inl (upd se j1_ b))), (md, .inr (3, [.int (nI 0), .int (nI n), .ref bw, .ref bf, .ref bv, .ref bz, .int (nI 0), .ref bsp, .ref bdt, .ref bdr, .ref bhd, .ref bmv, .ref bod, .int (nI pl), .int (nI cr), .int (nI tk)]))] := hD
              refine lv_iload hx hb zd_M_value_120 (lv_at hl 0 rfl) ?_
              have hP := hP.sub (ws' := [(md, .inr (3, [.int (nI 0), .int (nI n), .ref bw, .ref bf, .ref bv, .ref bz, .int (nI 0), .ref bsp, .ref bdt, .ref bdr, .ref bhd, .ref bmv, .ref bod, .int (nI pl), .int (nI cr), .int (nI tk)])), (bw, .inl (cI, 16, .inl (upd wk j1_ w))), (bv, .inl (cJ, 16, .inr (.inl (vp_updL wo j1_ v)))), (bz, .inl (cZ, 16, .inl (upd se j1_ b)))]) [3, 0, 1, 2] rfl
              have hD := hD.sub (ws' := [(md, .inr (3, [.int (nI 0), .int (nI n), .ref bw, .ref bf, .ref bv, .ref bz, .int (nI 0), .ref bsp, .ref bdt, .ref bdr, .ref bhd, .ref bmv, .ref bod, .int (nI pl), .int (nI cr), .int (nI tk)])), (bw, .inl (cI, 16, .inl (upd wk j1_ w))), (bv, .inl (cJ, 16, .inr (.inl (vp_updL wo j1_ v)))), (bz, .inl (cZ, 16, .inl (upd se j1_ b)))]) [3, 0, 1, 2] (by decide) rfl
              exact z_zret hx hb hr hlocks hP hK hD hS zd_M_value_122 (by decide) (by decide) rfl ⟨by rw [hO], by rw [hO, hT, nI_clamp (by omega), hk9]; first | done | rfl⟩
          · have h2_ := (lg_cmp_eq _ _).mp c12_
            refine lv_aload_n hx hb zd_M_value_59 rfl (lv_at hl 0 rfl) ?_
            refine va_get (D := (dC, dI)) (ci := 3) (v := .ref bz) (C := zR_M) (T := zF_M) (N := 16) hx hb htz zi_M hown hK hP 3 rfl rfl 5 (by decide) (htz _ zq_464) (fun _ h9 => h9) rfl zd_M_value_60 ?_
            refine lv_iload_n hx hb zd_M_value_63 rfl (lv_at hl 1 rfl) ?_
            refine z_zald hx hb hK hP 2 2 rfl rfl (j := j1_) (by omega) (by decide) zd_M_value_64 ?_
            refine lv_iload hx hb zd_M_value_65 (lv_at hl 4 rfl) ?_
            refine lv_icmp_eq (tgt := 74) hx hb zd_M_value_67 (by decide) (fun c15_ => ?_) (fun c15_ => ?_)
            · have hO : zvo n wk wo se (nI j1_) w v b = 0 := zvo_0 (by omega) ⟨h1_, h2_, c15_⟩
              refine lv_iconst (v := (nI 0)) hx hb zd_M_value_74 (by decide) ?_
              refine lv_istore (lv' := [(6, .int (nI 0)), (0, .ref md), (1, .int (nI j1_)), (2, .int w), (3, .long v), (5, .int b)]) hx hb zd_M_value_75 hl (by decide) rfl (fun ls hl => ?_)
              refine lv_aload_n hx hb zd_M_value_77 rfl (lv_at hl 1 rfl) ?_
              refine va_get (D := (dC, dI)) (ci := 3) (v := .ref bw) (C := zR_M) (T := zF_M) (N := 16) hx hb htz zi_M hown hK hP 3 rfl rfl 2 (by decide) (htz _ zq_461) (fun _ h9 => h9) rfl zd_M_value_78 ?_
              refine lv_iload_n hx hb zd_M_value_81 rfl (lv_at hl 2 rfl) ?_
              refine lv_iload_n hx hb zd_M_value_82 rfl (lv_at hl 3 rfl) ?_
              refine z_iast hx hb hK hP hD hS 0 0 rfl rfl (j := j1_) (by omega) (by decide) zd_M_value_83 (fun H locs hP hD hS => ?_)
              have hP : va_P (dC, dI) zcl [(bw, .inl (cI, 16, .inl (upd wk j1_ w))), (bv, .inl (cJ, 16, .inr (.inl wo))), (bz, .inl (cZ, 16, .inl se)), (md, .inr (3, [.int (nI 0), .int (nI n), .ref bw, .ref bf, .ref bv, .ref bz, .int (nI kn), .ref bsp, .ref bdt, .ref bdr, .ref bhd, .ref bmv, .ref bod, .int (nI pl), .int (nI cr), .int (nI tk)]))] H := hP
              have hD : va_D A [(bw, .inl (cI, 16, .inl (upd wk j1_ w))), (bv, .inl (cJ, 16, .inr (.inl wo))), (bz, .inl (cZ, 16, .inl se)), (md, .inr (3, [.int (nI 0), .int (nI n), .ref bw, .ref bf, .ref bv, .ref bz, .int (nI kn), .ref bsp, .ref bdt, .ref bdr, .ref bhd, .ref bmv, .ref bod, .int (nI pl), .int (nI cr), .int (nI tk)]))] := hD
              refine lv_aload_n hx hb zd_M_value_84 rfl (lv_at hl 1 rfl) ?_
              refine va_get (D := (dC, dI)) (ci := 3) (v := .ref bv) (C := zR_M) (T := zF_M) (N := 16) hx hb htz zi_M hown hK hP 3 rfl rfl 4 (by decide) (htz _ zq_463) (fun _ h9 => h9) rfl zd_M_value_85 ?_
              refine lv_iload_n hx hb zd_M_value_88 rfl (lv_at hl 2 rfl) ?_
              refine lv_lload_n hx hb zd_M_value_89 rfl (lv_at hl 4 rfl) ?_
              refine z_last hx hb hK hP hD hS 1 1 rfl rfl (j := j1_) (by omega) (by decide) zd_M_value_90 (fun H locs hP hD hS => ?_)
              have hP : va_P (dC, dI) zcl [(bw, .inl (cI, 16, .inl (upd wk j1_ w))), (bv, .inl (cJ, 16, .inr (.inl (vp_updL wo j1_ v)))), (bz, .inl (cZ, 16, .inl se)), (md, .inr (3, [.int (nI 0), .int (nI n), .ref bw, .ref bf, .ref bv, .ref bz, .int (nI kn), .ref bsp, .ref bdt, .ref bdr, .ref bhd, .ref bmv, .ref bod, .int (nI pl), .int (nI cr), .int (nI tk)]))] H := hP
              have hD : va_D A [(bw, .inl (cI, 16, .inl (upd wk j1_ w))), (bv, .inl (cJ, 16, .inr (.inl (vp_updL wo j1_ v)))), (bz, .inl (cZ, 16, .inl se)), (md, .inr (3, [.int (nI 0), .int (nI n), .ref bw, .ref bf, .ref bv, .ref bz, .int (nI kn), .ref bsp, .ref bdt, .ref bdr, .ref bhd, .ref bmv, .ref bod, .int (nI pl), .int (nI cr), .int (nI tk)]))] := hD
              refine lv_aload_n hx hb zd_M_value_91 rfl (lv_at hl 1 rfl) ?_
              refine va_get (D := (dC, dI)) (ci := 3) (v := .ref bz) (C := zR_M) (T := zF_M) (N := 16) hx hb htz zi_M hown hK hP 3 rfl rfl 5 (by decide) (htz _ zq_464) (fun _ h9 => h9) rfl zd_M_value_92 ?_
              refine lv_iload_n hx hb zd_M_value_95 rfl (lv_at hl 2 rfl) ?_
              refine lv_iload hx hb zd_M_value_96 (lv_at hl 5 rfl) ?_
              refine z_zast hx hb hK hP hD hS 2 2 rfl rfl (j := j1_) (by omega) (by decide) hbb zd_M_value_98 (fun H locs hP hD hS => ?_)
              have hP : va_P (dC, dI) zcl [(bw, .inl (cI, 16, .inl (upd wk j1_ w))), (bv, .inl (cJ, 16, .inr (.inl (vp_updL wo j1_ v)))), (bz, .inl (cZ, 16, .inl (upd se j1_ b))), (md, .inr (3, [.int (nI 0), .int (nI n), .ref bw, .ref bf, .ref bv, .ref bz, .int (nI kn), .ref bsp, .ref bdt, .ref bdr, .ref bhd, .ref bmv, .ref bod, .int (nI pl), .int (nI cr), .int (nI tk)]))] H := hP
              have hD : va_D A [(bw, .inl (cI, 16, .inl (upd wk j1_ w))), (bv, .inl (cJ, 16, .inr (.inl (vp_updL wo j1_ v)))), (bz, .inl (cZ, 16, .inl (upd se j1_ b))), (md, .inr (3, [.int (nI 0), .int (nI n), .ref bw, .ref bf, .ref bv, .ref bz, .int (nI kn), .ref bsp, .ref bdt, .ref bdr, .ref bhd, .ref bmv, .ref bod, .int (nI pl), .int (nI cr), .int (nI tk)]))] := hD
              refine lv_aload_n hx hb zd_M_value_99 rfl (lv_at hl 1 rfl) ?_
              refine lv_aload_n hx hb zd_M_value_100 rfl (lv_at hl 1 rfl) ?_
              refine va_get (D := (dC, dI)) (ci := 3) (v := .int (nI kn)) (C := zR_M) (T := zF_M) (N := 16) hx hb htz zi_M hown hK hP 3 rfl rfl 6 (by decide) (htz _ zq_465) (fun _ h9 => h9) rfl zd_M_value_101 ?_
              refine lv_if_eq (tgt := 116) hx hb zd_M_value_104 (by decide) (fun c16_ => ?_) (fun c16_ => ?_)
              · have hk9 : kn = 0 := (nI_eq (b := 0) (by omega) (by decide)).mp c16_
                refine lv_iconst (v := (nI 0)) hx hb zd_M_value_116 (by decide) ?_
                refine va_put (D := (dC, dI)) (ci := 3) (v := .int (nI 0)) (ty := .boolean) (C := zR_M) (T := zF_M) (N := 16) hx hb htz zi_M zt_M zt_M_ok zn_M hown hK hP hD hS 3 rfl rfl 6 (by decide) (htz _ zq_465) (fun _ h9 => h9) rfl (by decide +kernel) rfl rfl (Nat.le_of_ble_eq_true rfl) zd_M_value_117 (fun H locs hP hD hS => ?_)
                have hP : va_P (dC, dI) zcl [(bw, .inl (cI, 16, .inl (upd wk j1_ w))), (bv, .inl (cJ, 16, .inr (.inl (vp_updL wo j1_ v)))), (bz, .inl (cZ, 16, .inl (upd se j1_ b))), (md, .inr (3, [.int (nI 0), .int (nI n), .ref bw, .ref bf, .ref bv, .ref bz, .int (nI 0), .ref bsp, .ref bdt, .ref bdr, .ref bhd, .ref bmv, .ref bod, .int (nI pl), .int (nI cr), .int (nI tk)]))] H := hP
                have hD : va_D A [(bw, .inl (cI, 16, .inl (upd wk j1_ w))), (bv, .inl (cJ, 16, .inr (.inl (vp_updL wo j1_ v)))), (bz, .inl (cZ, 16, .inl (upd se j1_ b))), (md, .inr (3, [.int (nI 0), .int (nI n), .ref bw, .ref bf, .ref bv, .ref bz, .int (nI 0), .ref bsp, .ref bdt, .ref bdr, .ref bhd, .ref bmv, .ref bod, .int (nI pl), .int (nI cr), .int (nI tk)]))] := hD
                refine lv_iload hx hb zd_M_value_120 (lv_at hl 0 rfl) ?_
                have hP := hP.sub (ws' := [(md, .inr (3, [.int (nI 0), .int (nI n), .ref bw, .ref bf, .ref bv, .ref bz, .int (nI 0), .ref bsp, .ref bdt, .ref bdr, .ref bhd, .ref bmv, .ref bod, .int (nI pl), .int (nI cr), .int (nI tk)])), (bw, .inl (cI, 16, .inl (upd wk j1_ w))), (bv, .inl (cJ, 16, .inr (.inl (vp_updL wo j1_ v)))), (bz, .inl (cZ, 16, .inl (upd se j1_ b)))]) [3, 0, 1, 2] rfl
                have hD := hD.sub (ws' := [(md, .inr (3, [.int (nI 0), .int (nI n), .ref bw, .ref bf, .ref bv, .ref bz, .int (nI 0), .ref bsp, .ref bdt, .ref bdr, .ref bhd, .ref bmv, .ref bod, .int (nI pl), .int (nI cr), .int (nI tk)])), (bw, .inl (cI, 16, .inl (upd wk j1_ w))), (bv, .inl (cJ, 16, .inr (.inl (vp_updL wo j1_ v)))), (bz, .inl (cZ, 16, .inl (upd se j1_ b)))]) [3, 0, 1, 2] (by decide) rfl
                exact z_zret hx hb hr hlocks hP hK hD hS zd_M_value_122 (by decide) (by decide) rfl ⟨by rw [hO], by rw [hO, hT, nI_clamp (by omega), hk9]; first | done | rfl⟩
              · have hk9 : kn = 1 := by have : ¬ kn = 0 := (fun h => c16_ (by rw [h]; rfl)); omega
                refine lv_iload hx hb zd_M_value_107 (lv_at hl 0 rfl) ?_
                refine lv_if_ne (tgt := 116) hx hb zd_M_value_109 (by decide) (fun c17_ => absurd (by decide) c17_) (fun _ => ?_)
                refine lv_iconst (v := (nI 1)) hx hb zd_M_value_112 (by decide) ?_
                refine lv_goto (tgt := 117) hx hb zd_M_value_113 (by decide) ?_
                refine va_put (D := (dC, dI)) (ci := 3) (v := .int (nI 1)) (ty := .boolean) (C := zR_M) (T := zF_M) (N := 16) hx hb htz zi_M zt_M zt_M_ok zn_M hown hK hP hD hS 3 rfl rfl 6 (by decide) (htz _ zq_465) (fun _ h9 => h9) rfl (by decide +kernel) rfl rfl (Nat.le_of_ble_eq_true rfl) zd_M_value_117 (fun H locs hP hD hS => ?_)
                have hP : va_P (dC, dI) zcl [(bw, .inl (cI, 16, .inl (upd wk j1_ w))), (bv, .inl (cJ, 16, .inr (.inl (vp_updL wo j1_ v)))), (bz, .inl (cZ, 16, .inl (upd se j1_ b))), (md, .inr (3, [.int (nI 0), .int (nI n), .ref bw, .ref bf, .ref bv, .ref bz, .int (nI 1), .ref bsp, .ref bdt, .ref bdr, .ref bhd, .ref bmv, .ref bod, .int (nI pl), .int (nI cr), .int (nI tk)]))] H := hP
                have hD : va_D A [(bw, .inl (cI, 16, .inl (upd wk j1_ w))), (bv, .inl (cJ, 16, .inr (.inl (vp_updL wo j1_ v)))), (bz, .inl (cZ, 16, .inl (upd se j1_ b))), (md, .inr (3, [.int (nI 0), .int (nI n), .ref bw, .ref bf, .ref bv, .ref bz, .int (nI 1), .ref bsp, .ref bdt, .ref bdr, .ref bhd, .ref bmv, .ref bod, .int (nI pl), .int (nI cr), .int (nI tk)]))] := hD
                refine lv_iload hx hb zd_M_value_120 (lv_at hl 0 rfl) ?_
                have hP := hP.sub (ws' := [(md, .inr (3, [.int (nI 0), .int (nI n), .ref bw, .ref bf, .ref bv, .ref bz, .int (nI 1), .ref bsp, .ref bdt, .ref bdr, .ref bhd, .ref bmv, .ref bod, .int (nI pl), .int (nI cr), .int (nI tk)])), (bw, .inl (cI, 16, .inl (upd wk j1_ w))), (bv, .inl (cJ, 16, .inr (.inl (vp_updL wo j1_ v)))), (bz, .inl (cZ, 16, .inl (upd se j1_ b)))]) [3, 0, 1, 2] rfl
                have hD := hD.sub (ws' := [(md, .inr (3, [.int (nI 0), .int (nI n), .ref bw, .ref bf, .ref bv, .ref bz, .int (nI 1), .ref bsp, .ref bdt, .ref bdr, .ref bhd, .ref bmv, .ref bod, .int (nI pl), .int (nI cr), .int (nI tk)])), (bw, .inl (cI, 16, .inl (upd wk j1_ w))), (bv, .inl (cJ, 16, .inr (.inl (vp_updL wo j1_ v)))), (bz, .inl (cZ, 16, .inl (upd se j1_ b)))]) [3, 0, 1, 2] (by decide) rfl
                exact z_zret hx hb hr hlocks hP hK hD hS zd_M_value_122 (by decide) (by decide) rfl ⟨by rw [hO], by rw [hO, hT, nI_clamp (by omega), hk9]; first | done | rfl⟩
            · have hO : zvo n wk wo se (nI j1_) w v b = 1 := zvo_1 (by omega) hT (fun h => c15_ h.2.2)
              refine lv_iconst (v := (nI 1)) hx hb zd_M_value_70 (by decide) ?_
              refine lv_goto (tgt := 75) hx hb zd_M_value_71 (by decide) ?_
              refine lv_istore (lv' := [(6, .int (nI 1)), (0, .ref md), (1, .int (nI j1_)), (2, .int w), (3, .long v), (5, .int b)]) hx hb zd_M_value_75 hl (by decide) rfl (fun ls hl => ?_)
              refine lv_aload_n hx hb zd_M_value_77 rfl (lv_at hl 1 rfl) ?_
              refine va_get (D := (dC, dI)) (ci := 3) (v := .ref bw) (C := zR_M) (T := zF_M) (N := 16) hx hb htz zi_M hown hK hP 3 rfl rfl 2 (by decide) (htz _ zq_461) (fun _ h9 => h9) rfl zd_M_value_78 ?_
              refine lv_iload_n hx hb zd_M_value_81 rfl (lv_at hl 2 rfl) ?_
              refine lv_iload_n hx hb zd_M_value_82 rfl (lv_at hl 3 rfl) ?_
              refine z_iast hx hb hK hP hD hS 0 0 rfl rfl (j := j1_) (by omega) (by decide) zd_M_value_83 (fun H locs hP hD hS => ?_)
              have hP : va_P (dC, dI) zcl [(bw, .inl (cI, 16, .inl (upd wk j1_ w))), (bv, .inl (cJ, 16, .inr (.inl wo))), (bz, .inl (cZ, 16, .inl se)), (md, .inr (3, [.int (nI 0), .int (nI n), .ref bw, .ref bf, .ref bv, .ref bz, .int (nI kn), .ref bsp, .ref bdt, .ref bdr, .ref bhd, .ref bmv, .ref bod, .int (nI pl), .int (nI cr), .int (nI tk)]))] H := hP
              have hD : va_D A [(bw, .inl (cI, 16, .inl (upd wk j1_ w))), (bv, .inl (cJ, 16, .inr (.inl wo))), (bz, .inl (cZ, 16, .inl se)), (md, .inr (3, [.int (nI 0), .int (nI n), .ref bw, .ref bf, .ref bv, .ref bz, .int (nI kn), .ref bsp, .ref bdt, .ref bdr, .ref bhd, .ref bmv, .ref bod, .int (nI pl), .int (nI cr), .int (nI tk)]))] := hD
              refine lv_aload_n hx hb zd_M_value_84 rfl (lv_at hl 1 rfl) ?_
              refine va_get (D := (dC, dI)) (ci := 3) (v := .ref bv) (C := zR_M) (T := zF_M) (N := 16) hx hb htz zi_M hown hK hP 3 rfl rfl 4 (by decide) (htz _ zq_463) (fun _ h9 => h9) rfl zd_M_value_85 ?_
              refine lv_iload_n hx hb zd_M_value_88 rfl (lv_at hl 2 rfl) ?_
              refine lv_lload_n hx hb zd_M_value_89 rfl (lv_at hl 4 rfl) ?_
              refine z_last hx hb hK hP hD hS 1 1 rfl rfl (j := j1_) (by omega) (by decide) zd_M_value_90 (fun H locs hP hD hS => ?_)
              have hP : va_P (dC, dI) zcl [(bw, .inl (cI, 16, .inl (upd wk j1_ w))), (bv, .inl (cJ, 16, .inr (.inl (vp_updL wo j1_ v)))), (bz, .inl (cZ, 16, .inl se)), (md, .inr (3, [.int (nI 0), .int (nI n), .ref bw, .ref bf, .ref bv, .ref bz, .int (nI kn), .ref bsp, .ref bdt, .ref bdr, .ref bhd, .ref bmv, .ref bod, .int (nI pl), .int (nI cr), .int (nI tk)]))] H := hP
              have hD : va_D A [(bw, .inl (cI, 16, .inl (upd wk j1_ w))), (bv, .inl (cJ, 16, .inr (.inl (vp_updL wo j1_ v)))), (bz, .inl (cZ, 16, .inl se)), (md, .inr (3, [.int (nI 0), .int (nI n), .ref bw, .ref bf, .ref bv, .ref bz, .int (nI kn), .ref bsp, .ref bdt, .ref bdr, .ref bhd, .ref bmv, .ref bod, .int (nI pl), .int (nI cr), .int (nI tk)]))] := hD
              refine lv_aload_n hx hb zd_M_value_91 rfl (lv_at hl 1 rfl) ?_
              refine va_get (D := (dC, dI)) (ci := 3) (v := .ref bz) (C := zR_M) (T := zF_M) (N := 16) hx hb htz zi_M hown hK hP 3 rfl rfl 5 (by decide) (htz _ zq_464) (fun _ h9 => h9) rfl zd_M_value_92 ?_
              refine lv_iload_n hx hb zd_M_value_95 rfl (lv_at hl 2 rfl) ?_
              refine lv_iload hx hb zd_M_value_96 (lv_at hl 5 rfl) ?_
              refine z_zast hx hb hK hP hD hS 2 2 rfl rfl (j := j1_) (by omega) (by decide) hbb zd_M_value_98 (fun H locs hP hD hS => ?_)
              have hP : va_P (dC, dI) zcl [(bw, .inl (cI, 16, .inl (upd wk j1_ w))), (bv, .inl (cJ, 16, .inr (.inl (vp_updL wo j1_ v)))), (bz, .inl (cZ, 16, .inl (upd se j1_ b))), (md, .inr (3, [.int (nI 0), .int (nI n), .ref bw, .ref bf, .ref bv, .ref bz, .int (nI kn), .ref bsp, .ref bdt, .ref bdr, .ref bhd, .ref bmv, .ref bod, .int (nI pl), .int (nI cr), .int (nI tk)]))] H := hP
              have hD : va_D A [(bw, .inl (cI, 16, .inl (upd wk j1_ w))), (bv, .inl (cJ, 16, .inr (.inl (vp_updL wo j1_ v)))), (bz, .inl (cZ, 16, .inl (upd se j1_ b))), (md, .inr (3, [.int (nI 0), .int (nI n), .ref bw, .ref bf, .ref bv, .ref bz, .int (nI kn), .ref bsp, .ref bdt, .ref bdr, .ref bhd, .ref bmv, .ref bod, .int (nI pl), .int (nI cr), .int (nI tk)]))] := hD
              refine lv_aload_n hx hb zd_M_value_99 rfl (lv_at hl 1 rfl) ?_
              refine lv_aload_n hx hb zd_M_value_100 rfl (lv_at hl 1 rfl) ?_
              refine va_get (D := (dC, dI)) (ci := 3) (v := .int (nI kn)) (C := zR_M) (T := zF_M) (N := 16) hx hb htz zi_M hown hK hP 3 rfl rfl 6 (by decide) (htz _ zq_465) (fun _ h9 => h9) rfl zd_M_value_101 ?_
              refine lv_if_eq (tgt := 116) hx hb zd_M_value_104 (by decide) (fun c18_ => ?_) (fun c18_ => ?_)
              · have hk9 : kn = 0 := (nI_eq (b := 0) (by omega) (by decide)).mp c18_
                refine lv_iconst (v := (nI 0)) hx hb zd_M_value_116 (by decide) ?_
                refine va_put (D := (dC, dI)) (ci := 3) (v := .int (nI 0)) (ty := .boolean) (C := zR_M) (T := zF_M) (N := 16) hx hb htz zi_M zt_M zt_M_ok zn_M hown hK hP hD hS 3 rfl rfl 6 (by decide) (htz _ zq_465) (fun _ h9 => h9) rfl (by decide +kernel) rfl rfl (Nat.le_of_ble_eq_true rfl) zd_M_value_117 (fun H locs hP hD hS => ?_)
                have hP : va_P (dC, dI) zcl [(bw, .inl (cI, 16, .inl (upd wk j1_ w))), (bv, .inl (cJ, 16, .inr (.inl (vp_updL wo j1_ v)))), (bz, .inl (cZ, 16, .inl (upd se j1_ b))), (md, .inr (3, [.int (nI 0), .int (nI n), .ref bw, .ref bf, .ref bv, .ref bz, .int (nI 0), .ref bsp, .ref bdt, .ref bdr, .ref bhd, .ref bmv, .ref bod, .int (nI pl), .int (nI cr), .int (nI tk)]))] H := hP
                have hD : va_D A [(bw, .inl (cI, 16, .inl (upd wk j1_ w))), (bv, .inl (cJ, 16, .inr (.inl (vp_updL wo j1_ v)))), (bz, .inl (cZ, 16, .inl (upd se j1_ b))), (md, .inr (3, [.int (nI 0), .int (nI n), .ref bw, .ref bf, .ref bv, .ref bz, .int (nI 0), .ref bsp, .ref bdt, .ref bdr, .ref bhd, .ref bmv, .ref bod, .int (nI pl), .int (nI cr), .int (nI tk)]))] := hD
                refine lv_iload hx hb zd_M_value_120 (lv_at hl 0 rfl) ?_
                have hP := hP.sub (ws' := [(md, .inr (3, [.int (nI 0), .int (nI n), .ref bw, .ref bf, .ref bv, .ref bz, .int (nI 0), .ref bsp, .ref bdt, .ref bdr, .ref bhd, .ref bmv, .ref bod, .int (nI pl), .int (nI cr), .int (nI tk)])), (bw, .inl (cI, 16, .inl (upd wk j1_ w))), (bv, .inl (cJ, 16, .inr (.inl (vp_updL wo j1_ v)))), (bz, .inl (cZ, 16, .inl (upd se j1_ b)))]) [3, 0, 1, 2] rfl
                have hD := hD.sub (ws' := [(md, .inr (3, [.int (nI 0), .int (nI n), .ref bw, .ref bf, .ref bv, .ref bz, .int (nI 0), .ref bsp, .ref bdt, .ref bdr, .ref bhd, .ref bmv, .ref bod, .int (nI pl), .int (nI cr), .int (nI tk)])), (bw, .inl (cI, 16, .inl (upd wk j1_ w))), (bv, .inl (cJ, 16, .inr (.inl (vp_updL wo j1_ v)))), (bz, .inl (cZ, 16, .inl (upd se j1_ b)))]) [3, 0, 1, 2] (by decide) rfl
                exact z_zret hx hb hr hlocks hP hK hD hS zd_M_value_122 (by decide) (by decide) rfl ⟨by rw [hO], by rw [hO, hT, nI_clamp (by omega), hk9]; first | done | rfl⟩
              · have hk9 : kn = 1 := by have : ¬ kn = 0 := (fun h => c18_ (by rw [h]; rfl)); omega
                refine lv_iload hx hb zd_M_value_107 (lv_at hl 0 rfl) ?_
                refine lv_if_ne (tgt := 116) hx hb zd_M_value_109 (by decide) (fun _ => ?_) (fun c19_ => absurd c19_ (by decide))
                refine lv_iconst (v := (nI 0)) hx hb zd_M_value_116 (by decide) ?_
                refine va_put (D := (dC, dI)) (ci := 3) (v := .int (nI 0)) (ty := .boolean) (C := zR_M) (T := zF_M) (N := 16) hx hb htz zi_M zt_M zt_M_ok zn_M hown hK hP hD hS 3 rfl rfl 6 (by decide) (htz _ zq_465) (fun _ h9 => h9) rfl (by decide +kernel) rfl rfl (Nat.le_of_ble_eq_true rfl) zd_M_value_117 (fun H locs hP hD hS => ?_)
                have hP : va_P (dC, dI) zcl [(bw, .inl (cI, 16, .inl (upd wk j1_ w))), (bv, .inl (cJ, 16, .inr (.inl (vp_updL wo j1_ v)))), (bz, .inl (cZ, 16, .inl (upd se j1_ b))), (md, .inr (3, [.int (nI 0), .int (nI n), .ref bw, .ref bf, .ref bv, .ref bz, .int (nI 0), .ref bsp, .ref bdt, .ref bdr, .ref bhd, .ref bmv, .ref bod, .int (nI pl), .int (nI cr), .int (nI tk)]))] H := hP
                have hD : va_D A [(bw, .inl (cI, 16, .inl (upd wk j1_ w))), (bv, .inl (cJ, 16, .inr (.inl (vp_updL wo j1_ v)))), (bz, .inl (cZ, 16, .inl (upd se j1_ b))), (md, .inr (3, [.int (nI 0), .int (nI n), .ref bw, .ref bf, .ref bv, .ref bz, .int (nI 0), .ref bsp, .ref bdt, .ref bdr, .ref bhd, .ref bmv, .ref bod, .int (nI pl), .int (nI cr), .int (nI tk)]))] := hD
                refine lv_iload hx hb zd_M_value_120 (lv_at hl 0 rfl) ?_
                have hP := hP.sub (ws' := [(md, .inr (3, [.int (nI 0), .int (nI n), .ref bw, .ref bf, .ref bv, .ref bz, .int (nI 0), .ref bsp, .ref bdt, .ref bdr, .ref bhd, .ref bmv, .ref bod, .int (nI pl), .int (nI cr), .int (nI tk)])), (bw, .inl (cI, 16, .inl (upd wk j1_ w))), (bv, .inl (cJ, 16, .inr (.inl (vp_updL wo j1_ v)))), (bz, .inl (cZ, 16, .inl (upd se j1_ b)))]) [3, 0, 1, 2] rfl
                have hD := hD.sub (ws' := [(md, .inr (3, [.int (nI 0), .int (nI n), .ref bw, .ref bf, .ref bv, .ref bz, .int (nI 0), .ref bsp, .ref bdt, .ref bdr, .ref bhd, .ref bmv, .ref bod, .int (nI pl), .int (nI cr), .int (nI tk)])), (bw, .inl (cI, 16, .inl (upd wk j1_ w))), (bv, .inl (cJ, 16, .inr (.inl (vp_updL wo j1_ v)))), (bz, .inl (cZ, 16, .inl (upd se j1_ b)))]) [3, 0, 1, 2] (by decide) rfl
                exact z_zret hx hb hr hlocks hP hK hD hS zd_M_value_122 (by decide) (by decide) rfl ⟨by rw [hO], by rw [hO, hT, nI_clamp (by omega), hk9]; first | done | rfl⟩
      · have hT : zvth n (nI j1_) w = 2 := zvth_2 (by omega) hj2_ (Or.inr (z_nle c7_))
        refine lv_iconst (v := (nI 1)) hx hb zd_M_value_25 (by decide) ?_
        refine lv_goto (tgt := 30) hx hb zd_M_value_26 (by decide) ?_
        refine z_Vi (As := [.int (nI 0), .int (nI 1)]) (rest := []) (wc := [(md, .inr (3, [.int th, .int (nI n), .ref bw, .ref bf, .ref bv, .ref bz, .int (nI kn), .ref bsp, .ref bdt, .ref bdr, .ref bhd, .ref bmv, .ref bod, .int (nI pl), .int (nI cr), .int (nI tk)]))]) (wr := [(bw, .inl (cI, 16, .inl wk)), (bv, .inl (cJ, 16, .inr (.inl wo))), (bz, .inl (cZ, 16, .inl se))]) ⟨hx, hb, hml, hown, htz⟩ hK hP hD hS hA (k_Model_fails_2 l dC dI cI cJ cZ md th n bw bf bv bz kn bsp bdt bdr bhd bmv bod pl cr tk H.size) (zcwV 2 htz zq_523 zq_520 zq_522 zp_15 zq_6 (by decide +kernel) ⟨Nat.le_of_ble_eq_true rfl, Nat.le_of_ble_eq_true rfl⟩) 3 3 rfl rfl [3] [0, 1, 2] rfl rfl rfl (by decide) rfl hl.1 rfl (Nat.le_of_ble_eq_true rfl) zd_M_value_30 ⟨Nat.le_of_ble_eq_true rfl, Nat.le_of_ble_eq_true rfl⟩ (fun r u H locs hw hP hD hS => ?_)
        obtain ⟨rfl, rfl⟩ := hw
        have hP : va_P (dC, dI) zcl [(bw, .inl (cI, 16, .inl wk)), (bv, .inl (cJ, 16, .inr (.inl wo))), (bz, .inl (cZ, 16, .inl se)), (md, .inr (3, [.int (nI 2), .int (nI n), .ref bw, .ref bf, .ref bv, .ref bz, .int (nI kn), .ref bsp, .ref bdt, .ref bdr, .ref bhd, .ref bmv, .ref bod, .int (nI pl), .int (nI cr), .int (nI tk)]))] H := hP
        have hD : va_D A [(bw, .inl (cI, 16, .inl wk)), (bv, .inl (cJ, 16, .inr (.inl wo))), (bz, .inl (cZ, 16, .inl se)), (md, .inr (3, [.int (nI 2), .int (nI n), .ref bw, .ref bf, .ref bv, .ref bz, .int (nI kn), .ref bsp, .ref bdt, .ref bdr, .ref bhd, .ref bmv, .ref bod, .int (nI pl), .int (nI cr), .int (nI tk)]))] := hD
        refine lv_if_eq (tgt := 38) hx hb zd_M_value_33 (by decide) (fun c20_ => absurd c20_ (by decide)) (fun _ => ?_)
        refine lv_iconst (v := (nI 0)) hx hb zd_M_value_36 (by decide) ?_
        have hP := hP.sub (ws' := [(md, .inr (3, [.int (nI 2), .int (nI n), .ref bw, .ref bf, .ref bv, .ref bz, .int (nI kn), .ref bsp, .ref bdt, .ref bdr, .ref bhd, .ref bmv, .ref bod, .int (nI pl), .int (nI cr), .int (nI tk)])), (bw, .inl (cI, 16, .inl wk)), (bv, .inl (cJ, 16, .inr (.inl wo))), (bz, .inl (cZ, 16, .inl se))]) [3, 0, 1, 2] rfl
        have hD := hD.sub (ws' := [(md, .inr (3, [.int (nI 2), .int (nI n), .ref bw, .ref bf, .ref bv, .ref bz, .int (nI kn), .ref bsp, .ref bdt, .ref bdr, .ref bhd, .ref bmv, .ref bod, .int (nI pl), .int (nI cr), .int (nI tk)])), (bw, .inl (cI, 16, .inl wk)), (bv, .inl (cJ, 16, .inr (.inl wo))), (bz, .inl (cZ, 16, .inl se))]) [3, 0, 1, 2] (by decide) rfl
        exact z_zret hx hb hr hlocks hP hK hD hS zd_M_value_37 (by decide) (by decide) rfl ⟨by rw [zvo_t (by rw [hT]; decide)], by rw [zvo_t (by rw [hT]; decide), hT]; first | done | rfl⟩
  · have hP : va_P (dC, dI) zcl [(bw, .inl (cI, 16, .inl wk)), (bv, .inl (cJ, 16, .inr (.inl wo))), (bz, .inl (cZ, 16, .inl se)), (md, .inr (3, [.int th, .int (nI n), .ref bw, .ref bf, .ref bv, .ref bz, .int (nI kn), .ref bsp, .ref bdt, .ref bdr, .ref bhd, .ref bmv, .ref bod, .int (nI pl), .int (nI cr), .int (nI tk)]))] H := hP
    have hD : va_D A [(bw, .inl (cI, 16, .inl wk)), (bv, .inl (cJ, 16, .inr (.inl wo))), (bz, .inl (cZ, 16, .inl se)), (md, .inr (3, [.int th, .int (nI n), .ref bw, .ref bf, .ref bv, .ref bz, .int (nI kn), .ref bsp, .ref bdt, .ref bdr, .ref bhd, .ref bmv, .ref bod, .int (nI pl), .int (nI cr), .int (nI tk)]))] := hD
    have hT : zvth n sh w = 1 := zvth_1 (by omega) hno3_
    refine lv_if_ne (tgt := 13) hx hb zd_M_value_6 (by decide) (fun c21_ => absurd (by decide) c21_) (fun _ => ?_)
    refine lv_iconst (v := (nI 1)) hx hb zd_M_value_9 (by decide) ?_
    refine lv_goto (tgt := 14) hx hb zd_M_value_10 (by decide) ?_
    refine lv_iload_n hx hb zd_M_value_14 rfl (lv_at hl 2 rfl) ?_
    refine lv_iconst (v := (nI 1)) hx hb zd_M_value_15 (by decide) ?_
    refine lv_icmp_lt (tgt := 25) hx hb zd_M_value_16 (by decide) (fun c22_ => ?_) (fun c22_ => ?_)
    · refine lv_iconst (v := (nI 1)) hx hb zd_M_value_25 (by decide) ?_
      refine lv_goto (tgt := 30) hx hb zd_M_value_26 (by decide) ?_
      refine z_Vi (As := [.int (nI 1), .int (nI 1)]) (rest := []) (wc := [(md, .inr (3, [.int th, .int (nI n), .ref bw, .ref bf, .ref bv, .ref bz, .int (nI kn), .ref bsp, .ref bdt, .ref bdr, .ref bhd, .ref bmv, .ref bod, .int (nI pl), .int (nI cr), .int (nI tk)]))]) (wr := [(bw, .inl (cI, 16, .inl wk)), (bv, .inl (cJ, 16, .inr (.inl wo))), (bz, .inl (cZ, 16, .inl se))]) ⟨hx, hb, hml, hown, htz⟩ hK hP hD hS hA (k_Model_fails_1 l dC dI cI cJ cZ md th n bw bf bv bz kn bsp bdt bdr bhd bmv bod pl cr tk (nI 1) H.size) (zcwV 2 htz zq_523 zq_520 zq_522 zp_15 zq_6 (by decide +kernel) ⟨Nat.le_of_ble_eq_true rfl, Nat.le_of_ble_eq_true rfl⟩) 3 3 rfl rfl [3] [0, 1, 2] rfl rfl rfl (by decide) rfl hl.1 rfl (Nat.le_of_ble_eq_true rfl) zd_M_value_30 ⟨Nat.le_of_ble_eq_true rfl, Nat.le_of_ble_eq_true rfl⟩ (fun r u H locs hw hP hD hS => ?_)
      obtain ⟨rfl, rfl⟩ := hw
      have hP : va_P (dC, dI) zcl [(bw, .inl (cI, 16, .inl wk)), (bv, .inl (cJ, 16, .inr (.inl wo))), (bz, .inl (cZ, 16, .inl se)), (md, .inr (3, [.int (nI 1), .int (nI n), .ref bw, .ref bf, .ref bv, .ref bz, .int (nI kn), .ref bsp, .ref bdt, .ref bdr, .ref bhd, .ref bmv, .ref bod, .int (nI pl), .int (nI cr), .int (nI tk)]))] H := hP
      have hD : va_D A [(bw, .inl (cI, 16, .inl wk)), (bv, .inl (cJ, 16, .inr (.inl wo))), (bz, .inl (cZ, 16, .inl se)), (md, .inr (3, [.int (nI 1), .int (nI n), .ref bw, .ref bf, .ref bv, .ref bz, .int (nI kn), .ref bsp, .ref bdt, .ref bdr, .ref bhd, .ref bmv, .ref bod, .int (nI pl), .int (nI cr), .int (nI tk)]))] := hD
      refine lv_if_eq (tgt := 38) hx hb zd_M_value_33 (by decide) (fun c23_ => absurd c23_ (by decide)) (fun _ => ?_)
      refine lv_iconst (v := (nI 0)) hx hb zd_M_value_36 (by decide) ?_
      have hP := hP.sub (ws' := [(md, .inr (3, [.int (nI 1), .int (nI n), .ref bw, .ref bf, .ref bv, .ref bz, .int (nI kn), .ref bsp, .ref bdt, .ref bdr, .ref bhd, .ref bmv, .ref bod, .int (nI pl), .int (nI cr), .int (nI tk)])), (bw, .inl (cI, 16, .inl wk)), (bv, .inl (cJ, 16, .inr (.inl wo))), (bz, .inl (cZ, 16, .inl se))]) [3, 0, 1, 2] rfl
      have hD := hD.sub (ws' := [(md, .inr (3, [.int (nI 1), .int (nI n), .ref bw, .ref bf, .ref bv, .ref bz, .int (nI kn), .ref bsp, .ref bdt, .ref bdr, .ref bhd, .ref bmv, .ref bod, .int (nI pl), .int (nI cr), .int (nI tk)])), (bw, .inl (cI, 16, .inl wk)), (bv, .inl (cJ, 16, .inr (.inl wo))), (bz, .inl (cZ, 16, .inl se))]) [3, 0, 1, 2] (by decide) rfl
      exact z_zret hx hb hr hlocks hP hK hD hS zd_M_value_37 (by decide) (by decide) rfl ⟨by rw [zvo_t (by rw [hT]; decide)], by rw [zvo_t (by rw [hT]; decide), hT]; first | done | rfl⟩
    · refine lv_iload_n hx hb zd_M_value_19 rfl (lv_at hl 2 rfl) ?_
      refine lv_bipush (v := (nI 100)) hx hb zd_M_value_20 (by decide) ?_
      refine lv_icmp_le (tgt := 29) hx hb zd_M_value_22 (by decide) (fun c24_ => ?_) (fun c24_ => ?_)
      · refine lv_iconst (v := (nI 0)) hx hb zd_M_value_29 (by decide) ?_
        refine z_Vi (As := [.int (nI 1), .int (nI 0)]) (rest := []) (wc := [(md, .inr (3, [.int th, .int (nI n), .ref bw, .ref bf, .ref bv, .ref bz, .int (nI kn), .ref bsp, .ref bdt, .ref bdr, .ref bhd, .ref bmv, .ref bod, .int (nI pl), .int (nI cr), .int (nI tk)]))]) (wr := [(bw, .inl (cI, 16, .inl wk)), (bv, .inl (cJ, 16, .inr (.inl wo))), (bz, .inl (cZ, 16, .inl se))]) ⟨hx, hb, hml, hown, htz⟩ hK hP hD hS hA (k_Model_fails_1 l dC dI cI cJ cZ md th n bw bf bv bz kn bsp bdt bdr bhd bmv bod pl cr tk (nI 0) H.size) (zcwV 2 htz zq_523 zq_520 zq_522 zp_15 zq_6 (by decide +kernel) ⟨Nat.le_of_ble_eq_true rfl, Nat.le_of_ble_eq_true rfl⟩) 3 3 rfl rfl [3] [0, 1, 2] rfl rfl rfl (by decide) rfl hl.1 rfl (Nat.le_of_ble_eq_true rfl) zd_M_value_30 ⟨Nat.le_of_ble_eq_true rfl, Nat.le_of_ble_eq_true rfl⟩ (fun r u H locs hw hP hD hS => ?_)
        obtain ⟨rfl, rfl⟩ := hw
        have hP : va_P (dC, dI) zcl [(bw, .inl (cI, 16, .inl wk)), (bv, .inl (cJ, 16, .inr (.inl wo))), (bz, .inl (cZ, 16, .inl se)), (md, .inr (3, [.int (nI 1), .int (nI n), .ref bw, .ref bf, .ref bv, .ref bz, .int (nI kn), .ref bsp, .ref bdt, .ref bdr, .ref bhd, .ref bmv, .ref bod, .int (nI pl), .int (nI cr), .int (nI tk)]))] H := hP
        have hD : va_D A [(bw, .inl (cI, 16, .inl wk)), (bv, .inl (cJ, 16, .inr (.inl wo))), (bz, .inl (cZ, 16, .inl se)), (md, .inr (3, [.int (nI 1), .int (nI n), .ref bw, .ref bf, .ref bv, .ref bz, .int (nI kn), .ref bsp, .ref bdt, .ref bdr, .ref bhd, .ref bmv, .ref bod, .int (nI pl), .int (nI cr), .int (nI tk)]))] := hD
        refine lv_if_eq (tgt := 38) hx hb zd_M_value_33 (by decide) (fun c25_ => absurd c25_ (by decide)) (fun _ => ?_)
        refine lv_iconst (v := (nI 0)) hx hb zd_M_value_36 (by decide) ?_
        have hP := hP.sub (ws' := [(md, .inr (3, [.int (nI 1), .int (nI n), .ref bw, .ref bf, .ref bv, .ref bz, .int (nI kn), .ref bsp, .ref bdt, .ref bdr, .ref bhd, .ref bmv, .ref bod, .int (nI pl), .int (nI cr), .int (nI tk)])), (bw, .inl (cI, 16, .inl wk)), (bv, .inl (cJ, 16, .inr (.inl wo))), (bz, .inl (cZ, 16, .inl se))]) [3, 0, 1, 2] rfl
        have hD := hD.sub (ws' := [(md, .inr (3, [.int (nI 1), .int (nI n), .ref bw, .ref bf, .ref bv, .ref bz, .int (nI kn), .ref bsp, .ref bdt, .ref bdr, .ref bhd, .ref bmv, .ref bod, .int (nI pl), .int (nI cr), .int (nI tk)])), (bw, .inl (cI, 16, .inl wk)), (bv, .inl (cJ, 16, .inr (.inl wo))), (bz, .inl (cZ, 16, .inl se))]) [3, 0, 1, 2] (by decide) rfl
        exact z_zret hx hb hr hlocks hP hK hD hS zd_M_value_37 (by decide) (by decide) rfl ⟨by rw [zvo_t (by rw [hT]; decide)], by rw [zvo_t (by rw [hT]; decide), hT]; first | done | rfl⟩
      · refine lv_iconst (v := (nI 1)) hx hb zd_M_value_25 (by decide) ?_
        refine lv_goto (tgt := 30) hx hb zd_M_value_26 (by decide) ?_
        refine z_Vi (As := [.int (nI 1), .int (nI 1)]) (rest := []) (wc := [(md, .inr (3, [.int th, .int (nI n), .ref bw, .ref bf, .ref bv, .ref bz, .int (nI kn), .ref bsp, .ref bdt, .ref bdr, .ref bhd, .ref bmv, .ref bod, .int (nI pl), .int (nI cr), .int (nI tk)]))]) (wr := [(bw, .inl (cI, 16, .inl wk)), (bv, .inl (cJ, 16, .inr (.inl wo))), (bz, .inl (cZ, 16, .inl se))]) ⟨hx, hb, hml, hown, htz⟩ hK hP hD hS hA (k_Model_fails_1 l dC dI cI cJ cZ md th n bw bf bv bz kn bsp bdt bdr bhd bmv bod pl cr tk (nI 1) H.size) (zcwV 2 htz zq_523 zq_520 zq_522 zp_15 zq_6 (by decide +kernel) ⟨Nat.le_of_ble_eq_true rfl, Nat.le_of_ble_eq_true rfl⟩) 3 3 rfl rfl [3] [0, 1, 2] rfl rfl rfl (by decide) rfl hl.1 rfl (Nat.le_of_ble_eq_true rfl) zd_M_value_30 ⟨Nat.le_of_ble_eq_true rfl, Nat.le_of_ble_eq_true rfl⟩ (fun r u H locs hw hP hD hS => ?_)
        obtain ⟨rfl, rfl⟩ := hw
        have hP : va_P (dC, dI) zcl [(bw, .inl (cI, 16, .inl wk)), (bv, .inl (cJ, 16, .inr (.inl wo))), (bz, .inl (cZ, 16, .inl se)), (md, .inr (3, [.int (nI 1), .int (nI n), .ref bw, .ref bf, .ref bv, .ref bz, .int (nI kn), .ref bsp, .ref bdt, .ref bdr, .ref bhd, .ref bmv, .ref bod, .int (nI pl), .int (nI cr), .int (nI tk)]))] H := hP
        have hD : va_D A [(bw, .inl (cI, 16, .inl wk)), (bv, .inl (cJ, 16, .inr (.inl wo))), (bz, .inl (cZ, 16, .inl se)), (md, .inr (3, [.int (nI 1), .int (nI n), .ref bw, .ref bf, .ref bv, .ref bz, .int (nI kn), .ref bsp, .ref bdt, .ref bdr, .ref bhd, .ref bmv, .ref bod, .int (nI pl), .int (nI cr), .int (nI tk)]))] := hD
        refine lv_if_eq (tgt := 38) hx hb zd_M_value_33 (by decide) (fun c26_ => absurd c26_ (by decide)) (fun _ => ?_)
        refine lv_iconst (v := (nI 0)) hx hb zd_M_value_36 (by decide) ?_
        have hP := hP.sub (ws' := [(md, .inr (3, [.int (nI 1), .int (nI n), .ref bw, .ref bf, .ref bv, .ref bz, .int (nI kn), .ref bsp, .ref bdt, .ref bdr, .ref bhd, .ref bmv, .ref bod, .int (nI pl), .int (nI cr), .int (nI tk)])), (bw, .inl (cI, 16, .inl wk)), (bv, .inl (cJ, 16, .inr (.inl wo))), (bz, .inl (cZ, 16, .inl se))]) [3, 0, 1, 2] rfl
        have hD := hD.sub (ws' := [(md, .inr (3, [.int (nI 1), .int (nI n), .ref bw, .ref bf, .ref bv, .ref bz, .int (nI kn), .ref bsp, .ref bdt, .ref bdr, .ref bhd, .ref bmv, .ref bod, .int (nI pl), .int (nI cr), .int (nI tk)])), (bw, .inl (cI, 16, .inl wk)), (bv, .inl (cJ, 16, .inr (.inl wo))), (bz, .inl (cZ, 16, .inl se))]) [3, 0, 1, 2] (by decide) rfl
        exact z_zret hx hb hr hlocks hP hK hD hS zd_M_value_37 (by decide) (by decide) rfl ⟨by rw [zvo_t (by rw [hT]; decide)], by rw [zvo_t (by rw [hT]; decide), hT]; first | done | rfl⟩
set_option maxHeartbeats 4000000 in
set_option maxRecDepth 100000 in
/--  -/
theorem k_Model_faults (l : Launch) (dC : Nat → ClassId) (dI : Nat → Nat → Nat) (cI cJ cZ : ClassId) (md : Nat) (th : Int32) (n : Nat) (bw : Nat) (bf : Nat) (bv : Nat) (bz : Nat) (kn : Nat) (bsp : Nat) (bdt : Nat) (bdr : Nat) (bhd : Nat) (bmv : Nat) (bod : Nat) (pl : Nat) (cr : Nat) (tk : Nat) (fl : Nat → Int32) (sh : Int32) (w : Int32) (hn : n ≤ 16) (hkn : kn ≤ 1) (sz : Nat) : zMi l zy_M_faults zw_M_faults ({ frames := 1, cells := 0, slots := 0, locals := 22 }) [.ref md, .int sh, .int w] (dC, dI) zcl [(cI, .int), (cJ, .long), (cZ, .boolean)] [(md, .inr (3, [.int th, .int (nI n), .ref bw, .ref bf, .ref bv, .ref bz, .int (nI kn), .ref bsp, .ref bdt, .ref bdr, .ref bhd, .ref bmv, .ref bod, .int (nI pl), .int (nI cr), .int (nI tk)])), (bf, .inl (cI, 16, .inl fl))] sz (fun (r : Int32) (u : va_W) => r = nI (zfo n fl sh w) ∧ u = [(md, .inr (3, [.int (nI (zfth n sh w)), .int (nI n), .ref bw, .ref bf, .ref bv, .ref bz, .int (nI (zk2 (zfo n fl sh w) kn)), .ref bsp, .ref bdt, .ref bdr, .ref bhd, .ref bmv, .ref bod, .int (nI pl), .int (nI cr), .int (nI tk)])), (bf, .inl (cI, 16, .inl (zup (zfth n sh w) fl sh.toNatClampNeg w)))]) := by
  refine z_ofi (cc := zc_M_faults) (maxL := 4) (ret := (some .boolean)) (by decide) rfl (Nat.le_of_ble_eq_true rfl) ?_
  intro p e s m below meth c A ls hx hb hr hml hown htz hlocks hin hA hP hK hD hS hl
  have hown : s.vm.findClass zR_M = some m.cls := hown
  have hl : lv_has ls 4 [(0, .ref md), (1, .int sh), (2, .int w)] := hl
  refine lv_aload_n hx hb zd_M_faults_0 rfl (lv_at hl 0 rfl) ?_
  refine lv_aload_n hx hb zd_M_faults_1 rfl (lv_at hl 0 rfl) ?_
  refine lv_iload_n hx hb zd_M_faults_2 rfl (lv_at hl 1 rfl) ?_
  refine z_Vi (As := [.int sh]) (rest := [.ref md]) (wc := [(md, .inr (3, [.int th, .int (nI n), .ref bw, .ref bf, .ref bv, .ref bz, .int (nI kn), .ref bsp, .ref bdt, .ref bdr, .ref bhd, .ref bmv, .ref bod, .int (nI pl), .int (nI cr), .int (nI tk)]))]) (wr := [(bf, .inl (cI, 16, .inl fl))]) ⟨hx, hb, hml, hown, htz⟩ hK hP hD hS hA (k_Model_isShare l dC dI cI cJ cZ md th n bw bf bv bz kn bsp bdt bdr bhd bmv bod pl cr tk sh (by first | assumption | omega) s.heap.size) (zcwV 1 htz zq_519 zq_516 zq_518 zp_14 zq_6 (by decide +kernel) ⟨Nat.le_of_ble_eq_true rfl, Nat.le_of_ble_eq_true rfl⟩) 0 3 rfl rfl [0] [1] rfl rfl rfl (by decide) rfl hl.1 rfl (Nat.le_of_ble_eq_true rfl) zd_M_faults_3 ⟨Nat.le_of_ble_eq_true rfl, Nat.le_of_ble_eq_true rfl⟩ (fun r u H locs hw hP hD hS => ?_)
  rcases hw with ⟨j1_, rfl, rfl, hj2_, rfl⟩ | ⟨rfl, rfl, hno3_⟩
  · have hP : va_P (dC, dI) zcl [(bf, .inl (cI, 16, .inl fl)), (md, .inr (3, [.int th, .int (nI n), .ref bw, .ref bf, .ref bv, .ref bz, .int (nI kn), .ref bsp, .ref bdt, .ref bdr, .ref bhd, .ref bmv, .ref bod, .int (nI pl), .int (nI cr), .int (nI tk)]))] H := hP
    have hD : va_D A [(bf, .inl (cI, 16, .inl fl)), (md, .inr (3, [.int th, .int (nI n), .ref bw, .ref bf, .ref bv, .ref bz, .int (nI kn), .ref bsp, .ref bdt, .ref bdr, .ref bhd, .ref bmv, .ref bod, .int (nI pl), .int (nI cr), .int (nI tk)]))] := hD
    refine lv_if_ne (tgt := 13) hx hb zd_M_faults_6 (by decide) (fun _ => ?_) (fun c4_ => absurd c4_ (by decide))
    refine lv_iconst (v := (nI 0)) hx hb zd_M_faults_13 (by decide) ?_
    refine lv_iload_n hx hb zd_M_faults_14 rfl (lv_at hl 2 rfl) ?_
    refine lv_if_lt (tgt := 23) hx hb zd_M_faults_15 (by decide) (fun c5_ => ?_) (fun c5_ => ?_)
    · have hT : zfth n (nI j1_) w = 2 := zfth_2 (by omega) hj2_ (Or.inl c5_)
      refine lv_iconst (v := (nI 1)) hx hb zd_M_faults_23 (by decide) ?_
      refine lv_goto (tgt := 28) hx hb zd_M_faults_24 (by decide) ?_
      refine z_Vi (As := [.int (nI 0), .int (nI 1)]) (rest := []) (wc := [(md, .inr (3, [.int th, .int (nI n), .ref bw, .ref bf, .ref bv, .ref bz, .int (nI kn), .ref bsp, .ref bdt, .ref bdr, .ref bhd, .ref bmv, .ref bod, .int (nI pl), .int (nI cr), .int (nI tk)]))]) (wr := [(bf, .inl (cI, 16, .inl fl))]) ⟨hx, hb, hml, hown, htz⟩ hK hP hD hS hA (k_Model_fails_2 l dC dI cI cJ cZ md th n bw bf bv bz kn bsp bdt bdr bhd bmv bod pl cr tk H.size) (zcwV 2 htz zq_523 zq_520 zq_522 zp_15 zq_6 (by decide +kernel) ⟨Nat.le_of_ble_eq_true rfl, Nat.le_of_ble_eq_true rfl⟩) 1 3 rfl rfl [1] [0] rfl rfl rfl (by decide) rfl hl.1 rfl (Nat.le_of_ble_eq_true rfl) zd_M_faults_28 ⟨Nat.le_of_ble_eq_true rfl, Nat.le_of_ble_eq_true rfl⟩ (fun r u H locs hw hP hD hS => ?_)
      obtain ⟨rfl, rfl⟩ := hw
      have hP : va_P (dC, dI) zcl [(bf, .inl (cI, 16, .inl fl)), (md, .inr (3, [.int (nI 2), .int (nI n), .ref bw, .ref bf, .ref bv, .ref bz, .int (nI kn), .ref bsp, .ref bdt, .ref bdr, .ref bhd, .ref bmv, .ref bod, .int (nI pl), .int (nI cr), .int (nI tk)]))] H := hP
      have hD : va_D A [(bf, .inl (cI, 16, .inl fl)), (md, .inr (3, [.int (nI 2), .int (nI n), .ref bw, .ref bf, .ref bv, .ref bz, .int (nI kn), .ref bsp, .ref bdt, .ref bdr, .ref bhd, .ref bmv, .ref bod, .int (nI pl), .int (nI cr), .int (nI tk)]))] := hD
      refine lv_if_eq (tgt := 36) hx hb zd_M_faults_31 (by decide) (fun c6_ => absurd c6_ (by decide)) (fun _ => ?_)
      refine lv_iconst (v := (nI 0)) hx hb zd_M_faults_34 (by decide) ?_
      have hP := hP.sub (ws' := [(md, .inr (3, [.int (nI 2), .int (nI n), .ref bw, .ref bf, .ref bv, .ref bz, .int (nI kn), .ref bsp, .ref bdt, .ref bdr, .ref bhd, .ref bmv, .ref bod, .int (nI pl), .int (nI cr), .int (nI tk)])), (bf, .inl (cI, 16, .inl fl))]) [1, 0] rfl
      have hD := hD.sub (ws' := [(md, .inr (3, [.int (nI 2), .int (nI n), .ref bw, .ref bf, .ref bv, .ref bz, .int (nI kn), .ref bsp, .ref bdt, .ref bdr, .ref bhd, .ref bmv, .ref bod, .int (nI pl), .int (nI cr), .int (nI tk)])), (bf, .inl (cI, 16, .inl fl))]) [1, 0] (by decide) rfl
      exact z_zret hx hb hr hlocks hP hK hD hS zd_M_faults_35 (by decide) (by decide) rfl ⟨by rw [zfo_t (by rw [hT]; decide)], by rw [zfo_t (by rw [hT]; decide), hT]; first | done | rfl⟩
    · have hlo := c5_
      refine lv_iload_n hx hb zd_M_faults_18 rfl (lv_at hl 2 rfl) ?_
      refine lv_iconst (v := (nI 3)) hx hb zd_M_faults_19 (by decide) ?_
      refine lv_icmp_le (tgt := 27) hx hb zd_M_faults_20 (by decide) (fun c7_ => ?_) (fun c7_ => ?_)
      · have hT : zfth n (nI j1_) w = 0 := zfth_0 (by omega) hj2_ hlo (z_nlt c7_)
        refine lv_iconst (v := (nI 0)) hx hb zd_M_faults_27 (by decide) ?_
        refine z_Vi (As := [.int (nI 0), .int (nI 0)]) (rest := []) (wc := [(md, .inr (3, [.int th, .int (nI n), .ref bw, .ref bf, .ref bv, .ref bz, .int (nI kn), .ref bsp, .ref bdt, .ref bdr, .ref bhd, .ref bmv, .ref bod, .int (nI pl), .int (nI cr), .int (nI tk)]))]) (wr := [(bf, .inl (cI, 16, .inl fl))]) ⟨hx, hb, hml, hown, htz⟩ hK hP hD hS hA (k_Model_fails_0 l dC dI cI cJ cZ md th n bw bf bv bz kn bsp bdt bdr bhd bmv bod pl cr tk H.size) (zcwV 2 htz zq_523 zq_520 zq_522 zp_15 zq_6 (by decide +kernel) ⟨Nat.le_of_ble_eq_true rfl, Nat.le_of_ble_eq_true rfl⟩) 1 3 rfl rfl [1] [0] rfl rfl rfl (by decide) rfl hl.1 rfl (Nat.le_of_ble_eq_true rfl) zd_M_faults_28 ⟨Nat.le_of_ble_eq_true rfl, Nat.le_of_ble_eq_true rfl⟩ (fun r u H locs hw hP hD hS => ?_)
        obtain ⟨rfl, rfl⟩ := hw
        have hP : va_P (dC, dI) zcl [(bf, .inl (cI, 16, .inl fl)), (md, .inr (3, [.int (nI 0), .int (nI n), .ref bw, .ref bf, .ref bv, .ref bz, .int (nI kn), .ref bsp, .ref bdt, .ref bdr, .ref bhd, .ref bmv, .ref bod, .int (nI pl), .int (nI cr), .int (nI tk)]))] H := hP
        have hD : va_D A [(bf, .inl (cI, 16, .inl fl)), (md, .inr (3, [.int (nI 0), .int (nI n), .ref bw, .ref bf, .ref bv, .ref bz, .int (nI kn), .ref bsp, .ref bdt, .ref bdr, .ref bhd, .ref bmv, .ref bod, .int (nI pl), .int (nI cr), .int (nI tk)]))] := hD
        refine lv_if_eq (tgt := 36) hx hb zd_M_faults_31 (by decide) (fun _ => ?_) (fun c8_ => absurd (by decide) c8_)
        refine lv_aload_n hx hb zd_M_faults_36 rfl (lv_at hl 0 rfl) ?_
        refine va_get (D := (dC, dI)) (ci := 3) (v := .ref bf) (C := zR_M) (T := zF_M) (N := 16) hx hb htz zi_M hown hK hP 1 rfl rfl 3 (by decide) (htz _ zq_462) (fun _ h9 => h9) rfl zd_M_faults_37 ?_
        refine lv_iload_n hx hb zd_M_faults_40 rfl (lv_at hl 1 rfl) ?_
        refine z_iald hx hb hK hP 0 0 rfl rfl (j := j1_) (by omega) (by decide) zd_M_faults_41 ?_
        refine lv_iload_n hx hb zd_M_faults_42 rfl (lv_at hl 2 rfl) ?_
        refine lv_icmp_eq (tgt := 50) hx hb zd_M_faults_43 (by decide) (fun c9_ => ?_) (fun c9_ => ?_)
        · have hO : zfo n fl (nI j1_) w = 0 := zfo_0 (by omega) c9_
          refine lv_iconst (v := (nI 0)) hx hb zd_M_faults_50 (by decide) ?_
          refine lv_istore_n (lv' := [(3, .int (nI 0)), (0, .ref md), (1, .int (nI j1_)), (2, .int w)]) hx hb zd_M_faults_51 rfl hl (by decide) rfl (fun ls hl => ?_)
          refine lv_aload_n hx hb zd_M_faults_52 rfl (lv_at hl 1 rfl) ?_
          refine va_get (D := (dC, dI)) (ci := 3) (v := .ref bf) (C := zR_M) (T := zF_M) (N := 16) hx hb htz zi_M hown hK hP 1 rfl rfl 3 (by decide) (htz _ zq_462) (fun _ h9 => h9) rfl zd_M_faults_53 ?_
          refine lv_iload_n hx hb zd_M_faults_56 rfl (lv_at hl 2 rfl) ?_
          refine lv_iload_n hx hb zd_M_faults_57 rfl (lv_at hl 3 rfl) ?_
          refine z_iast hx hb hK hP hD hS 0 0 rfl rfl (j := j1_) (by omega) (by decide) zd_M_faults_58 (fun H locs hP hD hS => ?_)
          have hP : va_P (dC, dI) zcl [(bf, .inl (cI, 16, .inl (upd fl j1_ w))), (md, .inr (3, [.int (nI 0), .int (nI n), .ref bw, .ref bf, .ref bv, .ref bz, .int (nI kn), .ref bsp, .ref bdt, .ref bdr, .ref bhd, .ref bmv, .ref bod, .int (nI pl), .int (nI cr), .int (nI tk)]))] H := hP
          have hD : va_D A [(bf, .inl (cI, 16, .inl (upd fl j1_ w))), (md, .inr (3, [.int (nI 0), .int (nI n), .ref bw, .ref bf, .ref bv, .ref bz, .int (nI kn), .ref bsp, .ref bdt, .ref bdr, .ref bhd, .ref bmv, .ref bod, .int (nI pl), .int (nI cr), .int (nI tk)]))] := hD
          refine lv_aload_n hx hb zd_M_faults_59 rfl (lv_at hl 1 rfl) ?_
          refine lv_aload_n hx hb zd_M_faults_60 rfl (lv_at hl 1 rfl) ?_
          refine va_get (D := (dC, dI)) (ci := 3) (v := .int (nI kn)) (C := zR_M) (T := zF_M) (N := 16) hx hb htz zi_M hown hK hP 1 rfl rfl 6 (by decide) (htz _ zq_465) (fun _ h9 => h9) rfl zd_M_faults_61 ?_
          refine lv_if_eq (tgt := 75) hx hb zd_M_faults_64 (by decide) (fun c10_ => ?_) (fun c10_ => ?_)
          · have hk9 : kn = 0 := (nI_eq (b := 0) (by omega) (by decide)).mp c10_
            refine lv_iconst (v := (nI 0)) hx hb zd_M_faults_75 (by decide) ?_
            refine va_put (D := (dC, dI)) (ci := 3) (v := .int (nI 0)) (ty := .boolean) (C := zR_M) (T := zF_M) (N := 16) hx hb htz zi_M zt_M zt_M_ok zn_M hown hK hP hD hS 1 rfl rfl 6 (by decide) (htz _ zq_465) (fun _ h9 => h9) rfl (by decide +kernel) rfl rfl (Nat.le_of_ble_eq_true rfl) zd_M_faults_76 (fun H locs hP hD hS => ?_)
            have hP : va_P (dC, dI) zcl [(bf, .inl (cI, 16, .inl (upd fl j1_ w))), (md, .inr (3, [.int (nI 0), .int (nI n), .ref bw, .ref bf, .ref bv, .ref bz, .int (nI 0), .ref bsp, .ref bdt, .ref bdr, .ref bhd, .ref bmv, .ref bod, .int (nI pl), .int (nI cr), .int (nI tk)]))] H := hP
            have hD : va_D A [(bf, .inl (cI, 16, .inl (upd fl j1_ w))), (md, .inr (3, [.int (nI 0), .int (nI n), .ref bw, .ref bf, .ref bv, .ref bz, .int (nI 0), .ref bsp, .ref bdt, .ref bdr, .ref bhd, .ref bmv, .ref bod, .int (nI pl), .int (nI cr), .int (nI tk)]))] := hD
            refine lv_iload_n hx hb zd_M_faults_79 rfl (lv_at hl 0 rfl) ?_
            have hP := hP.sub (ws' := [(md, .inr (3, [.int (nI 0), .int (nI n), .ref bw, .ref bf, .ref bv, .ref bz, .int (nI 0), .ref bsp, .ref bdt, .ref bdr, .ref bhd, .ref bmv, .ref bod, .int (nI pl), .int (nI cr), .int (nI tk)])), (bf, .inl (cI, 16, .inl (upd fl j1_ w)))]) [1, 0] rfl
            have hD := hD.sub (ws' := [(md, .inr (3, [.int (nI 0), .int (nI n), .ref bw, .ref bf, .ref bv, .ref bz, .int (nI 0), .ref bsp, .ref bdt, .ref bdr, .ref bhd, .ref bmv, .ref bod, .int (nI pl), .int (nI cr), .int (nI tk)])), (bf, .inl (cI, 16, .inl (upd fl j1_ w)))]) [1, 0] (by decide) rfl
            exact z_zret hx hb hr hlocks hP hK hD hS zd_M_faults_80 (by decide) (by decide) rfl ⟨by rw [hO], by rw [hO, hT, nI_clamp (by omega), hk9]; first | done | rfl⟩
          · have hk9 : kn = 1 := by have : ¬ kn = 0 := (fun h => c10_ (by rw [h]; rfl)); omega
            refine lv_iload_n hx hb zd_M_faults_67 rfl (lv_at hl 0 rfl) ?_
            refine lv_if_ne (tgt := 75) hx hb zd_M_faults_68 (by decide) (fun c11_ => absurd (by decide) c11_) (fun _ => ?_)
            refine lv_iconst (v := (nI 1)) hx hb zd_M_faults_71 (by decide) ?_
            refine lv_goto (tgt := 76) hx hb zd_M_faults_72 (by decide) ?_
            refine va_put (D := (dC, dI)) (ci := 3) (v := .int (nI 1)) (ty := .boolean) (C := zR_M) (T := zF_M) (N := 16) hx hb htz zi_M zt_M zt_M_ok zn_M hown hK hP hD hS 1 rfl rfl 6 (by decide) (htz _ zq_465) (fun _ h9 => h9) rfl (by decide +kernel) rfl rfl (Nat.le_of_ble_eq_true rfl) zd_M_faults_76 (fun H locs hP hD hS => ?_)
            have hP : va_P (dC, dI) zcl [(bf, .inl (cI, 16, .inl (upd fl j1_ w))), (md, .inr (3, [.int (nI 0), .int (nI n), .ref bw, .ref bf, .ref bv, .ref bz, .int (nI 1), .ref bsp, .ref bdt, .ref bdr, .ref bhd, .ref bmv, .ref bod, .int (nI pl), .int (nI cr), .int (nI tk)]))] H := hP
            have hD : va_D A [(bf, .inl (cI, 16, .inl (upd fl j1_ w))), (md, .inr (3, [.int (nI 0), .int (nI n), .ref bw, .ref bf, .ref bv, .ref bz, .int (nI 1), .ref bsp, .ref bdt, .ref bdr, .ref bhd, .ref bmv, .ref bod, .int (nI pl), .int (nI cr), .int (nI tk)]))] := hD
            refine lv_iload_n hx hb zd_M_faults_79 rfl (lv_at hl 0 rfl) ?_
            have hP := hP.sub (ws' := [(md, .inr (3, [.int (nI 0), .int (nI n), .ref bw, .ref bf, .ref bv, .ref bz, .int (nI 1), .ref bsp, .ref bdt, .ref bdr, .ref bhd, .ref bmv, .ref bod, .int (nI pl), .int (nI cr), .int (nI tk)])), (bf, .inl (cI, 16, .inl (upd fl j1_ w)))]) [1, 0] rfl
            have hD := hD.sub (ws' := [(md, .inr (3, [.int (nI 0), .int (nI n), .ref bw, .ref bf, .ref bv, .ref bz, .int (nI 1), .ref bsp, .ref bdt, .ref bdr, .ref bhd, .ref bmv, .ref bod, .int (nI pl), .int (nI cr), .int (nI tk)])), (bf, .inl (cI, 16, .inl (upd fl j1_ w)))]) [1, 0] (by decide) rfl
            exact z_zret hx hb hr hlocks hP hK hD hS zd_M_faults_80 (by decide) (by decide) rfl ⟨by rw [hO], by rw [hO, hT, nI_clamp (by omega), hk9]; first | done | rfl⟩
        · have hO : zfo n fl (nI j1_) w = 1 := zfo_1 (by omega) hT c9_
          refine lv_iconst (v := (nI 1)) hx hb zd_M_faults_46 (by decide) ?_
          refine lv_goto (tgt := 51) hx hb zd_M_faults_47 (by decide) ?_
          refine lv_istore_n (lv' := [(3, .int (nI 1)), (0, .ref md), (1, .int (nI j1_)), (2, .int w)]) hx hb zd_M_faults_51 rfl hl (by decide) rfl (fun ls hl => ?_)
          refine lv_aload_n hx hb zd_M_faults_52 rfl (lv_at hl 1 rfl) ?_
          refine va_get (D := (dC, dI)) (ci := 3) (v := .ref bf) (C := zR_M) (T := zF_M) (N := 16) hx hb htz zi_M hown hK hP 1 rfl rfl 3 (by decide) (htz _ zq_462) (fun _ h9 => h9) rfl zd_M_faults_53 ?_
          refine lv_iload_n hx hb zd_M_faults_56 rfl (lv_at hl 2 rfl) ?_
          refine lv_iload_n hx hb zd_M_faults_57 rfl (lv_at hl 3 rfl) ?_
          refine z_iast hx hb hK hP hD hS 0 0 rfl rfl (j := j1_) (by omega) (by decide) zd_M_faults_58 (fun H locs hP hD hS => ?_)
          have hP : va_P (dC, dI) zcl [(bf, .inl (cI, 16, .inl (upd fl j1_ w))), (md, .inr (3, [.int (nI 0), .int (nI n), .ref bw, .ref bf, .ref bv, .ref bz, .int (nI kn), .ref bsp, .ref bdt, .ref bdr, .ref bhd, .ref bmv, .ref bod, .int (nI pl), .int (nI cr), .int (nI tk)]))] H := hP
          have hD : va_D A [(bf, .inl (cI, 16, .inl (upd fl j1_ w))), (md, .inr (3, [.int (nI 0), .int (nI n), .ref bw, .ref bf, .ref bv, .ref bz, .int (nI kn), .ref bsp, .ref bdt, .ref bdr, .ref bhd, .ref bmv, .ref bod, .int (nI pl), .int (nI cr), .int (nI tk)]))] := hD
          refine lv_aload_n hx hb zd_M_faults_59 rfl (lv_at hl 1 rfl) ?_
          refine lv_aload_n hx hb zd_M_faults_60 rfl (lv_at hl 1 rfl) ?_
          refine va_get (D := (dC, dI)) (ci := 3) (v := .int (nI kn)) (C := zR_M) (T := zF_M) (N := 16) hx hb htz zi_M hown hK hP 1 rfl rfl 6 (by decide) (htz _ zq_465) (fun _ h9 => h9) rfl zd_M_faults_61 ?_
          refine lv_if_eq (tgt := 75) hx hb zd_M_faults_64 (by decide) (fun c12_ => ?_) (fun c12_ => ?_)
          · have hk9 : kn = 0 := (nI_eq (b := 0) (by omega) (by decide)).mp c12_
            refine lv_iconst (v := (nI 0)) hx hb zd_M_faults_75 (by decide) ?_
            refine va_put (D := (dC, dI)) (ci := 3) (v := .int (nI 0)) (ty := .boolean) (C := zR_M) (T := zF_M) (N := 16) hx hb htz zi_M zt_M zt_M_ok zn_M hown hK hP hD hS 1 rfl rfl 6 (by decide) (htz _ zq_465) (fun _ h9 => h9) rfl (by decide +kernel) rfl rfl (Nat.le_of_ble_eq_true rfl) zd_M_faults_76 (fun H locs hP hD hS => ?_)
            have hP : va_P (dC, dI) zcl [(bf, .inl (cI, 16, .inl (upd fl j1_ w))), (md, .inr (3, [.int (nI 0), .int (nI n), .ref bw, .ref bf, .ref bv, .ref bz, .int (nI 0), .ref bsp, .ref bdt, .ref bdr, .ref bhd, .ref bmv, .ref bod, .int (nI pl), .int (nI cr), .int (nI tk)]))] H := hP
            have hD : va_D A [(bf, .inl (cI, 16, .inl (upd fl j1_ w))), (md, .inr (3, [.int (nI 0), .int (nI n), .ref bw, .ref bf, .ref bv, .ref bz, .int (nI 0), .ref bsp, .ref bdt, .ref bdr, .ref bhd, .ref bmv, .ref bod, .int (nI pl), .int (nI cr), .int (nI tk)]))] := hD
            refine lv_iload_n hx hb zd_M_faults_79 rfl (lv_at hl 0 rfl) ?_
            have hP := hP.sub (ws' := [(md, .inr (3, [.int (nI 0), .int (nI n), .ref bw, .ref bf, .ref bv, .ref bz, .int (nI 0), .ref bsp, .ref bdt, .ref bdr, .ref bhd, .ref bmv, .ref bod, .int (nI pl), .int (nI cr), .int (nI tk)])), (bf, .inl (cI, 16, .inl (upd fl j1_ w)))]) [1, 0] rfl
            have hD := hD.sub (ws' := [(md, .inr (3, [.int (nI 0), .int (nI n), .ref bw, .ref bf, .ref bv, .ref bz, .int (nI 0), .ref bsp, .ref bdt, .ref bdr, .ref bhd, .ref bmv, .ref bod, .int (nI pl), .int (nI cr), .int (nI tk)])), (bf, .inl (cI, 16, .inl (upd fl j1_ w)))]) [1, 0] (by decide) rfl
            exact z_zret hx hb hr hlocks hP hK hD hS zd_M_faults_80 (by decide) (by decide) rfl ⟨by rw [hO], by rw [hO, hT, nI_clamp (by omega), hk9]; first | done | rfl⟩
          · have hk9 : kn = 1 := by have : ¬ kn = 0 := (fun h => c12_ (by rw [h]; rfl)); omega
            refine lv_iload_n hx hb zd_M_faults_67 rfl (lv_at hl 0 rfl) ?_
            refine lv_if_ne (tgt := 75) hx hb zd_M_faults_68 (by decide) (fun _ => ?_) (fun c13_ => absurd c13_ (by decide))
            refine lv_iconst (v := (nI 0)) hx hb zd_M_faults_75 (by decide) ?_
            refine va_put (D := (dC, dI)) (ci := 3) (v := .int (nI 0)) (ty := .boolean) (C := zR_M) (T := zF_M) (N := 16) hx hb htz zi_M zt_M zt_M_ok zn_M hown hK hP hD hS 1 rfl rfl 6 (by decide) (htz _ zq_465) (fun _ h9 => h9) rfl (by decide +kernel) rfl rfl (Nat.le_of_ble_eq_true rfl) zd_M_faults_76 (fun H locs hP hD hS => ?_)
            have hP : va_P (dC, dI) zcl [(bf, .inl (cI, 16, .inl (upd fl j1_ w))), (md, .inr (3, [.int (nI 0), .int (nI n), .ref bw, .ref bf, .ref bv, .ref bz, .int (nI 0), .ref bsp, .ref bdt, .ref bdr, .ref bhd, .ref bmv, .ref bod, .int (nI pl), .int (nI cr), .int (nI tk)]))] H := hP
            have hD : va_D A [(bf, .inl (cI, 16, .inl (upd fl j1_ w))), (md, .inr (3, [.int (nI 0), .int (nI n), .ref bw, .ref bf, .ref bv, .ref bz, .int (nI 0), .ref bsp, .ref bdt, .ref bdr, .ref bhd, .ref bmv, .ref bod, .int (nI pl), .int (nI cr), .int (nI tk)]))] := hD
            refine lv_iload_n hx hb zd_M_faults_79 rfl (lv_at hl 0 rfl) ?_
            have hP := hP.sub (ws' := [(md, .inr (3, [.int (nI 0), .int (nI n), .ref bw, .ref bf, .ref bv, .ref bz, .int (nI 0), .ref bsp, .ref bdt, .ref bdr, .ref bhd, .ref bmv, .ref bod, .int (nI pl), .int (nI cr), .int (nI tk)])), (bf, .inl (cI, 16, .inl (upd fl j1_ w)))]) [1, 0] rfl
            have hD := hD.sub (ws' := [(md, .inr (3, [.int (nI 0), .int (nI n), .ref bw, .ref bf, .ref bv, .ref bz, .int (nI 0), .ref bsp, .ref bdt, .ref bdr, .ref bhd, .ref bmv, .ref bod, .int (nI pl), .int (nI cr), .int (nI tk)])), (bf, .inl (cI, 16, .inl (upd fl j1_ w)))]) [1, 0] (by decide) rfl
            exact z_zret hx hb hr hlocks hP hK hD hS zd_M_faults_80 (by decide) (by decide) rfl ⟨by rw [hO], by rw [hO, hT, nI_clamp (by omega), hk9]; first | done | rfl⟩
      · have hT : zfth n (nI j1_) w = 2 := zfth_2 (by omega) hj2_ (Or.inr (z_nle c7_))
        refine lv_iconst (v := (nI 1)) hx hb zd_M_faults_23 (by decide) ?_
        refine lv_goto (tgt := 28) hx hb zd_M_faults_24 (by decide) ?_
        refine z_Vi (As := [.int (nI 0), .int (nI 1)]) (rest := []) (wc := [(md, .inr (3, [.int th, .int (nI n), .ref bw, .ref bf, .ref bv, .ref bz, .int (nI kn), .ref bsp, .ref bdt, .ref bdr, .ref bhd, .ref bmv, .ref bod, .int (nI pl), .int (nI cr), .int (nI tk)]))]) (wr := [(bf, .inl (cI, 16, .inl fl))]) ⟨hx, hb, hml, hown, htz⟩ hK hP hD hS hA (k_Model_fails_2 l dC dI cI cJ cZ md th n bw bf bv bz kn bsp bdt bdr bhd bmv bod pl cr tk H.size) (zcwV 2 htz zq_523 zq_520 zq_522 zp_15 zq_6 (by decide +kernel) ⟨Nat.le_of_ble_eq_true rfl, Nat.le_of_ble_eq_true rfl⟩) 1 3 rfl rfl [1] [0] rfl rfl rfl (by decide) rfl hl.1 rfl (Nat.le_of_ble_eq_true rfl) zd_M_faults_28 ⟨Nat.le_of_ble_eq_true rfl, Nat.le_of_ble_eq_true rfl⟩ (fun r u H locs hw hP hD hS => ?_)
        obtain ⟨rfl, rfl⟩ := hw
        have hP : va_P (dC, dI) zcl [(bf, .inl (cI, 16, .inl fl)), (md, .inr (3, [.int (nI 2), .int (nI n), .ref bw, .ref bf, .ref bv, .ref bz, .int (nI kn), .ref bsp, .ref bdt, .ref bdr, .ref bhd, .ref bmv, .ref bod, .int (nI pl), .int (nI cr), .int (nI tk)]))] H := hP
        have hD : va_D A [(bf, .inl (cI, 16, .inl fl)), (md, .inr (3, [.int (nI 2), .int (nI n), .ref bw, .ref bf, .ref bv, .ref bz, .int (nI kn), .ref bsp, .ref bdt, .ref bdr, .ref bhd, .ref bmv, .ref bod, .int (nI pl), .int (nI cr), .int (nI tk)]))] := hD
        refine lv_if_eq (tgt := 36) hx hb zd_M_faults_31 (by decide) (fun c14_ => absurd c14_ (by decide)) (fun _ => ?_)
        refine lv_iconst (v := (nI 0)) hx hb zd_M_faults_34 (by decide) ?_
        have hP := hP.sub (ws' := [(md, .inr (3, [.int (nI 2), .int (nI n), .ref bw, .ref bf, .ref bv, .ref bz, .int (nI kn), .ref bsp, .ref bdt, .ref bdr, .ref bhd, .ref bmv, .ref bod, .int (nI pl), .int (nI cr), .int (nI tk)])), (bf, .inl (cI, 16, .inl fl))]) [1, 0] rfl
        have hD := hD.sub (ws' := [(md, .inr (3, [.int (nI 2), .int (nI n), .ref bw, .ref bf, .ref bv, .ref bz, .int (nI kn), .ref bsp, .ref bdt, .ref bdr, .ref bhd, .ref bmv, .ref bod, .int (nI pl), .int (nI cr), .int (nI tk)])), (bf, .inl (cI, 16, .inl fl))]) [1, 0] (by decide) rfl
        exact z_zret hx hb hr hlocks hP hK hD hS zd_M_faults_35 (by decide) (by decide) rfl ⟨by rw [zfo_t (by rw [hT]; decide)], by rw [zfo_t (by rw [hT]; decide), hT]; first | done | rfl⟩
  · have hP : va_P (dC, dI) zcl [(bf, .inl (cI, 16, .inl fl)), (md, .inr (3, [.int th, .int (nI n), .ref bw, .ref bf, .ref bv, .ref bz, .int (nI kn), .ref bsp, .ref bdt, .ref bdr, .ref bhd, .ref bmv, .ref bod, .int (nI pl), .int (nI cr), .int (nI tk)]))] H := hP
    have hD : va_D A [(bf, .inl (cI, 16, .inl fl)), (md, .inr (3, [.int th, .int (nI n), .ref bw, .ref bf, .ref bv, .ref bz, .int (nI kn), .ref bsp, .ref bdt, .ref bdr, .ref bhd, .ref bmv, .ref bod, .int (nI pl), .int (nI cr), .int (nI tk)]))] := hD
    have hT : zfth n sh w = 1 := zfth_1 (by omega) hno3_
    refine lv_if_ne (tgt := 13) hx hb zd_M_faults_6 (by decide) (fun c15_ => absurd (by decide) c15_) (fun _ => ?_)
    refine lv_iconst (v := (nI 1)) hx hb zd_M_faults_9 (by decide) ?_
    refine lv_goto (tgt := 14) hx hb zd_M_faults_10 (by decide) ?_
    refine lv_iload_n hx hb zd_M_faults_14 rfl (lv_at hl 2 rfl) ?_
    refine lv_if_lt (tgt := 23) hx hb zd_M_faults_15 (by decide) (fun c16_ => ?_) (fun c16_ => ?_)
    · refine lv_iconst (v := (nI 1)) hx hb zd_M_faults_23 (by decide) ?_
      refine lv_goto (tgt := 28) hx hb zd_M_faults_24 (by decide) ?_
      refine z_Vi (As := [.int (nI 1), .int (nI 1)]) (rest := []) (wc := [(md, .inr (3, [.int th, .int (nI n), .ref bw, .ref bf, .ref bv, .ref bz, .int (nI kn), .ref bsp, .ref bdt, .ref bdr, .ref bhd, .ref bmv, .ref bod, .int (nI pl), .int (nI cr), .int (nI tk)]))]) (wr := [(bf, .inl (cI, 16, .inl fl))]) ⟨hx, hb, hml, hown, htz⟩ hK hP hD hS hA (k_Model_fails_1 l dC dI cI cJ cZ md th n bw bf bv bz kn bsp bdt bdr bhd bmv bod pl cr tk (nI 1) H.size) (zcwV 2 htz zq_523 zq_520 zq_522 zp_15 zq_6 (by decide +kernel) ⟨Nat.le_of_ble_eq_true rfl, Nat.le_of_ble_eq_true rfl⟩) 1 3 rfl rfl [1] [0] rfl rfl rfl (by decide) rfl hl.1 rfl (Nat.le_of_ble_eq_true rfl) zd_M_faults_28 ⟨Nat.le_of_ble_eq_true rfl, Nat.le_of_ble_eq_true rfl⟩ (fun r u H locs hw hP hD hS => ?_)
      obtain ⟨rfl, rfl⟩ := hw
      have hP : va_P (dC, dI) zcl [(bf, .inl (cI, 16, .inl fl)), (md, .inr (3, [.int (nI 1), .int (nI n), .ref bw, .ref bf, .ref bv, .ref bz, .int (nI kn), .ref bsp, .ref bdt, .ref bdr, .ref bhd, .ref bmv, .ref bod, .int (nI pl), .int (nI cr), .int (nI tk)]))] H := hP
      have hD : va_D A [(bf, .inl (cI, 16, .inl fl)), (md, .inr (3, [.int (nI 1), .int (nI n), .ref bw, .ref bf, .ref bv, .ref bz, .int (nI kn), .ref bsp, .ref bdt, .ref bdr, .ref bhd, .ref bmv, .ref bod, .int (nI pl), .int (nI cr), .int (nI tk)]))] := hD
      refine lv_if_eq (tgt := 36) hx hb zd_M_faults_31 (by decide) (fun c17_ => absurd c17_ (by decide)) (fun _ => ?_)
      refine lv_iconst (v := (nI 0)) hx hb zd_M_faults_34 (by decide) ?_
      have hP := hP.sub (ws' := [(md, .inr (3, [.int (nI 1), .int (nI n), .ref bw, .ref bf, .ref bv, .ref bz, .int (nI kn), .ref bsp, .ref bdt, .ref bdr, .ref bhd, .ref bmv, .ref bod, .int (nI pl), .int (nI cr), .int (nI tk)])), (bf, .inl (cI, 16, .inl fl))]) [1, 0] rfl
      have hD := hD.sub (ws' := [(md, .inr (3, [.int (nI 1), .int (nI n), .ref bw, .ref bf, .ref bv, .ref bz, .int (nI kn), .ref bsp, .ref bdt, .ref bdr, .ref bhd, .ref bmv, .ref bod, .int (nI pl), .int (nI cr), .int (nI tk)])), (bf, .inl (cI, 16, .inl fl))]) [1, 0] (by decide) rfl
      exact z_zret hx hb hr hlocks hP hK hD hS zd_M_faults_35 (by decide) (by decide) rfl ⟨by rw [zfo_t (by rw [hT]; decide)], by rw [zfo_t (by rw [hT]; decide), hT]; first | done | rfl⟩
    · refine lv_iload_n hx hb zd_M_faults_18 rfl (lv_at hl 2 rfl) ?_
      refine lv_iconst (v := (nI 3)) hx hb zd_M_faults_19 (by decide) ?_
      refine lv_icmp_le (tgt := 27) hx hb zd_M_faults_20 (by decide) (fun c18_ => ?_) (fun c18_ => ?_)
      · refine lv_iconst (v := (nI 0)) hx hb zd_M_faults_27 (by decide) ?_
        refine z_Vi (As := [.int (nI 1), .int (nI 0)]) (rest := []) (wc := [(md, .inr (3, [.int th, .int (nI n), .ref bw, .ref bf, .ref bv, .ref bz, .int (nI kn), .ref bsp, .ref bdt, .ref bdr, .ref bhd, .ref bmv, .ref bod, .int (nI pl), .int (nI cr), .int (nI tk)]))]) (wr := [(bf, .inl (cI, 16, .inl fl))]) ⟨hx, hb, hml, hown, htz⟩ hK hP hD hS hA (k_Model_fails_1 l dC dI cI cJ cZ md th n bw bf bv bz kn bsp bdt bdr bhd bmv bod pl cr tk (nI 0) H.size) (zcwV 2 htz zq_523 zq_520 zq_522 zp_15 zq_6 (by decide +kernel) ⟨Nat.le_of_ble_eq_true rfl, Nat.le_of_ble_eq_true rfl⟩) 1 3 rfl rfl [1] [0] rfl rfl rfl (by decide) rfl hl.1 rfl (Nat.le_of_ble_eq_true rfl) zd_M_faults_28 ⟨Nat.le_of_ble_eq_true rfl, Nat.le_of_ble_eq_true rfl⟩ (fun r u H locs hw hP hD hS => ?_)
        obtain ⟨rfl, rfl⟩ := hw
        have hP : va_P (dC, dI) zcl [(bf, .inl (cI, 16, .inl fl)), (md, .inr (3, [.int (nI 1), .int (nI n), .ref bw, .ref bf, .ref bv, .ref bz, .int (nI kn), .ref bsp, .ref bdt, .ref bdr, .ref bhd, .ref bmv, .ref bod, .int (nI pl), .int (nI cr), .int (nI tk)]))] H := hP
        have hD : va_D A [(bf, .inl (cI, 16, .inl fl)), (md, .inr (3, [.int (nI 1), .int (nI n), .ref bw, .ref bf, .ref bv, .ref bz, .int (nI kn), .ref bsp, .ref bdt, .ref bdr, .ref bhd, .ref bmv, .ref bod, .int (nI pl), .int (nI cr), .int (nI tk)]))] := hD
        refine lv_if_eq (tgt := 36) hx hb zd_M_faults_31 (by decide) (fun c19_ => absurd c19_ (by decide)) (fun _ => ?_)
        refine lv_iconst (v := (nI 0)) hx hb zd_M_faults_34 (by decide) ?_
        have hP := hP.sub (ws' := [(md, .inr (3, [.int (nI 1), .int (nI n), .ref bw, .ref bf, .ref bv, .ref bz, .int (nI kn), .ref bsp, .ref bdt, .ref bdr, .ref bhd, .ref bmv, .ref bod, .int (nI pl), .int (nI cr), .int (nI tk)])), (bf, .inl (cI, 16, .inl fl))]) [1, 0] rfl
        have hD := hD.sub (ws' := [(md, .inr (3, [.int (nI 1), .int (nI n), .ref bw, .ref bf, .ref bv, .ref bz, .int (nI kn), .ref bsp, .ref bdt, .ref bdr, .ref bhd, .ref bmv, .ref bod, .int (nI pl), .int (nI cr), .int (nI tk)])), (bf, .inl (cI, 16, .inl fl))]) [1, 0] (by decide) rfl
        exact z_zret hx hb hr hlocks hP hK hD hS zd_M_faults_35 (by decide) (by decide) rfl ⟨by rw [zfo_t (by rw [hT]; decide)], by rw [zfo_t (by rw [hT]; decide), hT]; first | done | rfl⟩
      · refine lv_iconst (v := (nI 1)) hx hb zd_M_faults_23 (by decide) ?_
        refine lv_goto (tgt := 28) hx hb zd_M_faults_24 (by decide) ?_
        refine z_Vi (As := [.int (nI 1), .int (nI 1)]) (rest := []) (wc := [(md, .inr (3, [.int th, .int (nI n), .ref bw, .ref bf, .ref bv, .ref bz, .int (nI kn), .ref bsp, .ref bdt, .ref bdr, .ref bhd, .ref bmv, .ref bod, .int (nI pl), .int (nI cr), .int (nI tk)]))]) (wr := [(bf, .inl (cI, 16, .inl fl))]) ⟨hx, hb, hml, hown, htz⟩ hK hP hD hS hA (k_Model_fails_1 l dC dI cI cJ cZ md th n bw bf bv bz kn bsp bdt bdr bhd bmv bod pl cr tk (nI 1) H.size) (zcwV 2 htz zq_523 zq_520 zq_522 zp_15 zq_6 (by decide +kernel) ⟨Nat.le_of_ble_eq_true rfl, Nat.le_of_ble_eq_true rfl⟩) 1 3 rfl rfl [1] [0] rfl rfl rfl (by decide) rfl hl.1 rfl (Nat.le_of_ble_eq_true rfl) zd_M_faults_28 ⟨Nat.le_of_ble_eq_true rfl, Nat.le_of_ble_eq_true rfl⟩ (fun r u H locs hw hP hD hS => ?_)
        obtain ⟨rfl, rfl⟩ := hw
        have hP : va_P (dC, dI) zcl [(bf, .inl (cI, 16, .inl fl)), (md, .inr (3, [.int (nI 1), .int (nI n), .ref bw, .ref bf, .ref bv, .ref bz, .int (nI kn), .ref bsp, .ref bdt, .ref bdr, .ref bhd, .ref bmv, .ref bod, .int (nI pl), .int (nI cr), .int (nI tk)]))] H := hP
        have hD : va_D A [(bf, .inl (cI, 16, .inl fl)), (md, .inr (3, [.int (nI 1), .int (nI n), .ref bw, .ref bf, .ref bv, .ref bz, .int (nI kn), .ref bsp, .ref bdt, .ref bdr, .ref bhd, .ref bmv, .ref bod, .int (nI pl), .int (nI cr), .int (nI tk)]))] := hD
        refine lv_if_eq (tgt := 36) hx hb zd_M_faults_31 (by decide) (fun c20_ => absurd c20_ (by decide)) (fun _ => ?_)
        refine lv_iconst (v := (nI 0)) hx hb zd_M_faults_34 (by decide) ?_
        have hP := hP.sub (ws' := [(md, .inr (3, [.int (nI 1), .int (nI n), .ref bw, .ref bf, .ref bv, .ref bz, .int (nI kn), .ref bsp, .ref bdt, .ref bdr, .ref bhd, .ref bmv, .ref bod, .int (nI pl), .int (nI cr), .int (nI tk)])), (bf, .inl (cI, 16, .inl fl))]) [1, 0] rfl
        have hD := hD.sub (ws' := [(md, .inr (3, [.int (nI 1), .int (nI n), .ref bw, .ref bf, .ref bv, .ref bz, .int (nI kn), .ref bsp, .ref bdt, .ref bdr, .ref bhd, .ref bmv, .ref bod, .int (nI pl), .int (nI cr), .int (nI tk)])), (bf, .inl (cI, 16, .inl fl))]) [1, 0] (by decide) rfl
        exact z_zret hx hb hr hlocks hP hK hD hS zd_M_faults_35 (by decide) (by decide) rfl ⟨by rw [zfo_t (by rw [hT]; decide)], by rw [zfo_t (by rw [hT]; decide), hT]; first | done | rfl⟩
set_option maxHeartbeats 4000000 in
set_option maxRecDepth 100000 in
/--  -/
theorem k_Model_answer (l : Launch) (dC : Nat → ClassId) (dI : Nat → Nat → Nat) (cI cJ cZ : ClassId) (md : Nat) (th : Int32) (n : Nat) (bw : Nat) (bf : Nat) (bv : Nat) (bz : Nat) (kn : Nat) (bsp : Nat) (bdt : Nat) (bdr : Nat) (bhd : Nat) (bmv : Nat) (bod : Nat) (pl : Nat) (cr : Nat) (tk : Nat) (wo : Nat → Int64) (se : Nat → Int32) (hn : n ≤ 16) (hkn : kn ≤ 1) (sz : Nat) : zMl l zy_M_answer zw_M_answer ({ frames := 1, cells := 0, slots := 0, locals := 22 }) [.ref md] (dC, dI) zcl [(cI, .int), (cJ, .long), (cZ, .boolean)] [(md, .inr (3, [.int th, .int (nI n), .ref bw, .ref bf, .ref bv, .ref bz, .int (nI kn), .ref bsp, .ref bdt, .ref bdr, .ref bhd, .ref bmv, .ref bod, .int (nI pl), .int (nI cr), .int (nI tk)])), (bv, .inl (cJ, 16, .inr (.inl wo))), (bz, .inl (cZ, 16, .inl se))] sz (fun (r : Int64) (u : va_W) => r = zansk kn se wo n ∧ u = [(md, .inr (3, [.int (nI (zkc kn)), .int (nI n), .ref bw, .ref bf, .ref bv, .ref bz, .int (nI kn), .ref bsp, .ref bdt, .ref bdr, .ref bhd, .ref bmv, .ref bod, .int (nI pl), .int (nI cr), .int (nI tk)])), (bv, .inl (cJ, 16, .inr (.inl wo))), (bz, .inl (cZ, 16, .inl se))]) := by
  refine z_ofl (cc := zc_M_answer) (maxL := 5) (ret := (some .long)) (by decide) rfl (Nat.le_of_ble_eq_true rfl) ?_
  intro p e s m below meth c A ls hx hb hr hml hown htz hlocks hin hA hP hK hD hS hl
  have hown : s.vm.findClass zR_M = some m.cls := hown
  have hl : lv_has ls 5 [(0, .ref md)] := hl
  refine lv_aload_n hx hb zd_M_answer_0 rfl (lv_at hl 0 rfl) ?_
  refine lv_aload_n hx hb zd_M_answer_1 rfl (lv_at hl 0 rfl) ?_
  refine va_get (D := (dC, dI)) (ci := 3) (v := .int (nI kn)) (C := zR_M) (T := zF_M) (N := 16) hx hb htz zi_M hown hK hP 0 rfl rfl 6 (by decide) (htz _ zq_465) (fun _ h9 => h9) rfl zd_M_answer_2 ?_
  refine lv_if_ne (tgt := 12) hx hb zd_M_answer_5 (by decide) (fun c1_ => ?_) (fun c1_ => ?_)
  · have hk9 : ¬ kn = 0 := fun h => c1_ (by rw [h]; rfl)
    refine lv_iconst (v := (nI 0)) hx hb zd_M_answer_12 (by decide) ?_
    refine lv_iconst (v := (nI 0)) hx hb zd_M_answer_13 (by decide) ?_
    refine z_Vi (As := [.int (nI 0), .int (nI 0)]) (rest := []) (wc := [(md, .inr (3, [.int th, .int (nI n), .ref bw, .ref bf, .ref bv, .ref bz, .int (nI kn), .ref bsp, .ref bdt, .ref bdr, .ref bhd, .ref bmv, .ref bod, .int (nI pl), .int (nI cr), .int (nI tk)]))]) (wr := [(bv, .inl (cJ, 16, .inr (.inl wo))), (bz, .inl (cZ, 16, .inl se))]) ⟨hx, hb, hml, hown, htz⟩ hK hP hD hS hA (k_Model_fails_0 l dC dI cI cJ cZ md th n bw bf bv bz kn bsp bdt bdr bhd bmv bod pl cr tk s.heap.size) (zcwV 2 htz zq_523 zq_520 zq_522 zp_15 zq_6 (by decide +kernel) ⟨Nat.le_of_ble_eq_true rfl, Nat.le_of_ble_eq_true rfl⟩) 0 3 rfl rfl [0] [1, 2] rfl rfl rfl (by decide) rfl hl.1 rfl (Nat.le_of_ble_eq_true rfl) zd_M_answer_14 ⟨Nat.le_of_ble_eq_true rfl, Nat.le_of_ble_eq_true rfl⟩ (fun r u H locs hw hP hD hS => ?_)
    obtain ⟨rfl, rfl⟩ := hw
    have hP : va_P (dC, dI) zcl [(bv, .inl (cJ, 16, .inr (.inl wo))), (bz, .inl (cZ, 16, .inl se)), (md, .inr (3, [.int (nI 0), .int (nI n), .ref bw, .ref bf, .ref bv, .ref bz, .int (nI kn), .ref bsp, .ref bdt, .ref bdr, .ref bhd, .ref bmv, .ref bod, .int (nI pl), .int (nI cr), .int (nI tk)]))] H := hP
    have hD : va_D A [(bv, .inl (cJ, 16, .inr (.inl wo))), (bz, .inl (cZ, 16, .inl se)), (md, .inr (3, [.int (nI 0), .int (nI n), .ref bw, .ref bf, .ref bv, .ref bz, .int (nI kn), .ref bsp, .ref bdt, .ref bdr, .ref bhd, .ref bmv, .ref bod, .int (nI pl), .int (nI cr), .int (nI tk)]))] := hD
    refine lv_if_eq (tgt := 22) hx hb zd_M_answer_17 (by decide) (fun _ => ?_) (fun c2_ => absurd (by decide) c2_)
    refine lv_aload_n hx hb zd_M_answer_22 rfl (lv_at hl 0 rfl) ?_
    refine z_Vi (As := []) (rest := []) (wc := [(md, .inr (3, [.int (nI 0), .int (nI n), .ref bw, .ref bf, .ref bv, .ref bz, .int (nI kn), .ref bsp, .ref bdt, .ref bdr, .ref bhd, .ref bmv, .ref bod, .int (nI pl), .int (nI cr), .int (nI tk)])), (bz, .inl (cZ, 16, .inl se))]) (wr := [(bv, .inl (cJ, 16, .inr (.inl wo)))]) ⟨hx, hb, hml, hown, htz⟩ hK hP hD hS hA (k_Model_winner l dC dI cI cJ cZ md (nI 0) n bw bf bv bz kn bsp bdt bdr bhd bmv bod pl cr tk se (by first | assumption | omega) H.size) (zcwV 0 htz zq_561 zq_558 zq_560 zp_22 zq_6 (by decide +kernel) ⟨Nat.le_of_ble_eq_true rfl, Nat.le_of_ble_eq_true rfl⟩) 2 3 rfl rfl [2, 1] [0] rfl rfl rfl (by decide) rfl hl.1 rfl (Nat.le_of_ble_eq_true rfl) zd_M_answer_23 ⟨Nat.le_of_ble_eq_true rfl, Nat.le_of_ble_eq_true rfl⟩ (fun r u H locs hw hP hD hS => ?_)
    rcases hw with ⟨rfl, rfl, hw3_⟩ | ⟨rfl, rfl, hw4_⟩
    · have hP : va_P (dC, dI) zcl [(bv, .inl (cJ, 16, .inr (.inl wo))), (md, .inr (3, [.int (nI 0), .int (nI n), .ref bw, .ref bf, .ref bv, .ref bz, .int (nI kn), .ref bsp, .ref bdt, .ref bdr, .ref bhd, .ref bmv, .ref bod, .int (nI pl), .int (nI cr), .int (nI tk)])), (bz, .inl (cZ, 16, .inl se))] H := hP
      have hD : va_D A [(bv, .inl (cJ, 16, .inr (.inl wo))), (md, .inr (3, [.int (nI 0), .int (nI n), .ref bw, .ref bf, .ref bv, .ref bz, .int (nI kn), .ref bsp, .ref bdt, .ref bdr, .ref bhd, .ref bmv, .ref bod, .int (nI pl), .int (nI cr), .int (nI tk)])), (bz, .inl (cZ, 16, .inl se))] := hD
      have hw9 := hw3_
      refine lv_istore_n (lv' := [(1, .int (nI (zwin se n))), (0, .ref md)]) hx hb zd_M_answer_26 rfl hl (by decide) rfl (fun ls hl => ?_)
      refine lv_iload_n hx hb zd_M_answer_27 rfl (lv_at hl 0 rfl) ?_
      refine lv_iconst (v := (-1)) hx hb zd_M_answer_28 (by decide) ?_
      refine lv_icmp_eq (tgt := 39) hx hb zd_M_answer_29 (by decide) (fun c5_ => absurd c5_ (nI_nm1 (by omega))) (fun c5_ => ?_)
      refine lv_aload_n hx hb zd_M_answer_32 rfl (lv_at hl 1 rfl) ?_
      refine va_get (D := (dC, dI)) (ci := 3) (v := .ref bv) (C := zR_M) (T := zF_M) (N := 16) hx hb htz zi_M hown hK hP 1 rfl rfl 4 (by decide) (htz _ zq_463) (fun _ h9 => h9) rfl zd_M_answer_33 ?_
      refine lv_iload_n hx hb zd_M_answer_36 rfl (lv_at hl 0 rfl) ?_
      refine z_lald hx hb hK hP 0 1 rfl rfl (j := (zwin se n)) (by omega) (by decide) zd_M_answer_37 ?_
      have hP := hP.sub (ws' := [(md, .inr (3, [.int (nI 0), .int (nI n), .ref bw, .ref bf, .ref bv, .ref bz, .int (nI kn), .ref bsp, .ref bdt, .ref bdr, .ref bhd, .ref bmv, .ref bod, .int (nI pl), .int (nI cr), .int (nI tk)])), (bv, .inl (cJ, 16, .inr (.inl wo))), (bz, .inl (cZ, 16, .inl se))]) [1, 0, 2] rfl
      have hD := hD.sub (ws' := [(md, .inr (3, [.int (nI 0), .int (nI n), .ref bw, .ref bf, .ref bv, .ref bz, .int (nI kn), .ref bsp, .ref bdt, .ref bdr, .ref bhd, .ref bmv, .ref bod, .int (nI pl), .int (nI cr), .int (nI tk)])), (bv, .inl (cJ, 16, .inr (.inl wo))), (bz, .inl (cZ, 16, .inl se))]) [1, 0, 2] (by decide) rfl
      exact z_lret hx hb hr hlocks hP hK hD hS zd_M_answer_38 (by decide) (by decide) ⟨by simp only [zansk, zans]; rw [if_neg hk9, if_pos hw9], by rw [zkc_0 hk9]⟩
    · have hP : va_P (dC, dI) zcl [(bv, .inl (cJ, 16, .inr (.inl wo))), (md, .inr (3, [.int (nI 0), .int (nI n), .ref bw, .ref bf, .ref bv, .ref bz, .int (nI kn), .ref bsp, .ref bdt, .ref bdr, .ref bhd, .ref bmv, .ref bod, .int (nI pl), .int (nI cr), .int (nI tk)])), (bz, .inl (cZ, 16, .inl se))] H := hP
      have hD : va_D A [(bv, .inl (cJ, 16, .inr (.inl wo))), (md, .inr (3, [.int (nI 0), .int (nI n), .ref bw, .ref bf, .ref bv, .ref bz, .int (nI kn), .ref bsp, .ref bdt, .ref bdr, .ref bhd, .ref bmv, .ref bod, .int (nI pl), .int (nI cr), .int (nI tk)])), (bz, .inl (cZ, 16, .inl se))] := hD
      have hw9 := hw4_
      refine lv_istore_n (lv' := [(1, .int (-1)), (0, .ref md)]) hx hb zd_M_answer_26 rfl hl (by decide) rfl (fun ls hl => ?_)
      refine lv_iload_n hx hb zd_M_answer_27 rfl (lv_at hl 0 rfl) ?_
      refine lv_iconst (v := (-1)) hx hb zd_M_answer_28 (by decide) ?_
      refine lv_icmp_eq (tgt := 39) hx hb zd_M_answer_29 (by decide) (fun c6_ => ?_) (fun c6_ => absurd rfl c6_)
      refine lv_lconst (v := 0) hx hb zd_M_answer_39 (by decide) ?_
      refine lv_lstore_n (lv' := [(2, .long 0), (1, .int (-1)), (0, .ref md)]) hx hb zd_M_answer_40 rfl hl (by decide) rfl (fun ls hl => ?_)
      refine lv_iconst (v := (nI 0)) hx hb zd_M_answer_41 (by decide) ?_
      refine lv_istore (lv' := [(4, .int (nI 0)), (2, .long 0), (1, .int (-1)), (0, .ref md)]) hx hb zd_M_answer_42 hl (by decide) rfl (fun ls hl => ?_)
      have lp44 : ∀ (fuel : Nat) (k : Nat) (sm : Int64) (H : Heap) (locs : List Loc) (ls : Array Slot), (k ≤ n) → (sm = zsum wo k) → n - k < fuel → va_P (dC, dI) zcl [(bv, .inl (cJ, 16, .inr (.inl wo))), (md, .inr (3, [.int (nI 0), .int (nI n), .ref bw, .ref bf, .ref bv, .ref bz, .int (nI kn), .ref bsp, .ref bdt, .ref bdr, .ref bhd, .ref bmv, .ref bod, .int (nI pl), .int (nI cr), .int (nI tk)])), (bz, .inl (cZ, 16, .inl se))] H → va_D A [(bv, .inl (cJ, 16, .inr (.inl wo))), (md, .inr (3, [.int (nI 0), .int (nI n), .ref bw, .ref bf, .ref bv, .ref bz, .int (nI kn), .ref bsp, .ref bdt, .ref bdr, .ref bhd, .ref bmv, .ref bod, .int (nI pl), .int (nI cr), .int (nI tk)])), (bz, .inl (cZ, 16, .inl se))] → va_S A s.heap H locs → lv_has ls 5 [(4, .int (nI k)), (2, .long sm), (1, .int (-1)), (0, .ref md)] → W p l e ({ frames := 1, cells := 0, slots := 0, locals := 22 } : Room) s m [.ref md].toArray below meth c H locs 0 0 (MQ below (va_Ql (fun (r : Int64) (u : va_W) => r = zansk kn se wo n ∧ u = [(md, .inr (3, [.int (nI (zkc kn)), .int (nI n), .ref bw, .ref bf, .ref bv, .ref bz, .int (nI kn), .ref bsp, .ref bdt, .ref bdr, .ref bhd, .ref bmv, .ref bod, .int (nI pl), .int (nI cr), .int (nI tk)])), (bv, .inl (cJ, 16, .inr (.inl wo))), (bz, .inl (cZ, 16, .inl se))]) (zAt (dC, dI) zcl [(cI, .int), (cJ, .long), (cZ, .boolean)] A) A) [.ref md].toArray s 0 0 A) (F0 m 44 ls []) := by
        intro fuel
        induction fuel with
        | zero => intro k sm H locs ls hk hsm hf; exact absurd hf (Nat.not_lt_zero _)
        | succ fuel ih =>
          intro k sm H locs ls hk hsm hf hP hD hS hl
          refine lv_iload hx hb zd_M_answer_44 (lv_at hl 0 rfl) ?_
          refine lv_aload_n hx hb zd_M_answer_46 rfl (lv_at hl 3 rfl) ?_
          refine va_get (D := (dC, dI)) (ci := 3) (v := .int (nI n)) (C := zR_M) (T := zF_M) (N := 16) hx hb htz zi_M hown hK hP 1 rfl rfl 1 (by decide) (htz _ zq_460) (fun _ h9 => h9) rfl zd_M_answer_47 ?_
          refine lv_icmp_ge (tgt := 69) hx hb zd_M_answer_50 (by decide) (fun c7_ => ?_) (fun c7_ => ?_)
          · have hk2 : k = n := Nat.le_antisymm hk (Nat.le_of_not_lt (fun h => nI_ge h (by omega) c7_))
            refine lv_lload_n hx hb zd_M_answer_69 rfl (lv_at hl 1 rfl) ?_
            have hP := hP.sub (ws' := [(md, .inr (3, [.int (nI 0), .int (nI n), .ref bw, .ref bf, .ref bv, .ref bz, .int (nI kn), .ref bsp, .ref bdt, .ref bdr, .ref bhd, .ref bmv, .ref bod, .int (nI pl), .int (nI cr), .int (nI tk)])), (bv, .inl (cJ, 16, .inr (.inl wo))), (bz, .inl (cZ, 16, .inl se))]) [1, 0, 2] rfl
            have hD := hD.sub (ws' := [(md, .inr (3, [.int (nI 0), .int (nI n), .ref bw, .ref bf, .ref bv, .ref bz, .int (nI kn), .ref bsp, .ref bdt, .ref bdr, .ref bhd, .ref bmv, .ref bod, .int (nI pl), .int (nI cr), .int (nI tk)])), (bv, .inl (cJ, 16, .inr (.inl wo))), (bz, .inl (cZ, 16, .inl se))]) [1, 0, 2] (by decide) rfl
            exact z_lret hx hb hr hlocks hP hK hD hS zd_M_answer_70 (by decide) (by decide) ⟨by simp only [zansk, zans]; rw [if_neg hk9, if_neg (by omega), hsm, hk2], by rw [zkc_0 hk9]⟩
          · have hk2 : k < n := Nat.lt_of_not_le (fun h => c7_ (nI_le h (by omega)))
            refine lv_lload_n hx hb zd_M_answer_53 rfl (lv_at hl 1 rfl) ?_
            refine lv_aload_n hx hb zd_M_answer_54 rfl (lv_at hl 3 rfl) ?_
            refine va_get (D := (dC, dI)) (ci := 3) (v := .ref bv) (C := zR_M) (T := zF_M) (N := 16) hx hb htz zi_M hown hK hP 1 rfl rfl 4 (by decide) (htz _ zq_463) (fun _ h9 => h9) rfl zd_M_answer_55 ?_
            refine lv_iload hx hb zd_M_answer_58 (lv_at hl 0 rfl) ?_
            refine z_lald hx hb hK hP 0 1 rfl rfl (j := k) (by omega) (by decide) zd_M_answer_60 ?_
            refine lv_ladd hx hb zd_M_answer_61 ?_
            refine z_topl (y := zsum wo (k + 1)) (by rw [hsm]; rfl) ?_
            refine lv_lstore_n (lv' := [(2, .long (zsum wo (k + 1))), (4, .int (nI k)), (1, .int (-1)), (0, .ref md)]) hx hb zd_M_answer_62 rfl hl (by decide) rfl (fun ls hl => ?_)
            refine lv_iinc (v := (nI (k + 1))) (lv' := [(4, .int (nI (k + 1))), (2, .long (zsum wo (k + 1))), (1, .int (-1)), (0, .ref md)]) hx hb zd_M_answer_63 hl (k := 1) rfl (nI_1 k) (by decide) rfl (fun ls hl => ?_)
            refine lv_goto (tgt := 44) hx hb zd_M_answer_66 (by decide) ?_
            exact ih (k + 1) (zsum wo (k + 1)) _ _ _ (by omega) rfl (by omega) hP hD hS hl
      exact lp44 _ 0 0 _ _ _ (Nat.zero_le _) rfl (Nat.lt_succ_self _) hP hD hS hl
  · have hk9 : kn = 0 := (nI_eq (b := 0) (by omega) (by decide)).mp c1_
    refine lv_iconst (v := (nI 1)) hx hb zd_M_answer_8 (by decide) ?_
    refine lv_goto (tgt := 13) hx hb zd_M_answer_9 (by decide) ?_
    refine lv_iconst (v := (nI 0)) hx hb zd_M_answer_13 (by decide) ?_
    refine z_Vi (As := [.int (nI 1), .int (nI 0)]) (rest := []) (wc := [(md, .inr (3, [.int th, .int (nI n), .ref bw, .ref bf, .ref bv, .ref bz, .int (nI kn), .ref bsp, .ref bdt, .ref bdr, .ref bhd, .ref bmv, .ref bod, .int (nI pl), .int (nI cr), .int (nI tk)]))]) (wr := [(bv, .inl (cJ, 16, .inr (.inl wo))), (bz, .inl (cZ, 16, .inl se))]) ⟨hx, hb, hml, hown, htz⟩ hK hP hD hS hA (k_Model_fails_1 l dC dI cI cJ cZ md th n bw bf bv bz kn bsp bdt bdr bhd bmv bod pl cr tk (nI 0) s.heap.size) (zcwV 2 htz zq_523 zq_520 zq_522 zp_15 zq_6 (by decide +kernel) ⟨Nat.le_of_ble_eq_true rfl, Nat.le_of_ble_eq_true rfl⟩) 0 3 rfl rfl [0] [1, 2] rfl rfl rfl (by decide) rfl hl.1 rfl (Nat.le_of_ble_eq_true rfl) zd_M_answer_14 ⟨Nat.le_of_ble_eq_true rfl, Nat.le_of_ble_eq_true rfl⟩ (fun r u H locs hw hP hD hS => ?_)
    obtain ⟨rfl, rfl⟩ := hw
    have hP : va_P (dC, dI) zcl [(bv, .inl (cJ, 16, .inr (.inl wo))), (bz, .inl (cZ, 16, .inl se)), (md, .inr (3, [.int (nI 1), .int (nI n), .ref bw, .ref bf, .ref bv, .ref bz, .int (nI kn), .ref bsp, .ref bdt, .ref bdr, .ref bhd, .ref bmv, .ref bod, .int (nI pl), .int (nI cr), .int (nI tk)]))] H := hP
    have hD : va_D A [(bv, .inl (cJ, 16, .inr (.inl wo))), (bz, .inl (cZ, 16, .inl se)), (md, .inr (3, [.int (nI 1), .int (nI n), .ref bw, .ref bf, .ref bv, .ref bz, .int (nI kn), .ref bsp, .ref bdt, .ref bdr, .ref bhd, .ref bmv, .ref bod, .int (nI pl), .int (nI cr), .int (nI tk)]))] := hD
    refine lv_if_eq (tgt := 22) hx hb zd_M_answer_17 (by decide) (fun c8_ => absurd c8_ (by decide)) (fun _ => ?_)
    refine lv_lconst (v := 0) hx hb zd_M_answer_20 (by decide) ?_
    have hP := hP.sub (ws' := [(md, .inr (3, [.int (nI 1), .int (nI n), .ref bw, .ref bf, .ref bv, .ref bz, .int (nI kn), .ref bsp, .ref bdt, .ref bdr, .ref bhd, .ref bmv, .ref bod, .int (nI pl), .int (nI cr), .int (nI tk)])), (bv, .inl (cJ, 16, .inr (.inl wo))), (bz, .inl (cZ, 16, .inl se))]) [2, 0, 1] rfl
    have hD := hD.sub (ws' := [(md, .inr (3, [.int (nI 1), .int (nI n), .ref bw, .ref bf, .ref bv, .ref bz, .int (nI kn), .ref bsp, .ref bdt, .ref bdr, .ref bhd, .ref bmv, .ref bod, .int (nI pl), .int (nI cr), .int (nI tk)])), (bv, .inl (cJ, 16, .inr (.inl wo))), (bz, .inl (cZ, 16, .inl se))]) [2, 0, 1] (by decide) rfl
    exact z_lret hx hb hr hlocks hP hK hD hS zd_M_answer_21 (by decide) (by decide) ⟨by simp only [zansk]; rw [if_pos hk9], by rw [zkc_1 hk9]⟩
set_option maxHeartbeats 4000000 in
set_option maxRecDepth 100000 in
/--  -/
theorem k_Model_ticks (l : Launch) (dC : Nat → ClassId) (dI : Nat → Nat → Nat) (cI cJ cZ : ClassId) (md : Nat) (th : Int32) (n : Nat) (bw : Nat) (bf : Nat) (bv : Nat) (bz : Nat) (kn : Nat) (bsp : Nat) (bdt : Nat) (bdr : Nat) (bhd : Nat) (bmv : Nat) (bod : Nat) (pl : Nat) (cr : Nat) (tk : Nat) (se : Nat → Int32) (sp : Nat → Int32) (what : Int32) (hn : n ≤ 16) (hkn : kn ≤ 1) (sz : Nat) : zMi l zy_M_ticks zw_M_ticks ({ frames := 2, cells := 0, slots := 0, locals := 43 }) [.ref md, .int what] (dC, dI) zcl [(cI, .int), (cJ, .long), (cZ, .boolean)] [(md, .inr (3, [.int th, .int (nI n), .ref bw, .ref bf, .ref bv, .ref bz, .int (nI kn), .ref bsp, .ref bdt, .ref bdr, .ref bhd, .ref bmv, .ref bod, .int (nI pl), .int (nI cr), .int (nI tk)])), (bz, .inl (cZ, 16, .inl se)), (bsp, .inl (cI, 16, .inl sp))] sz (fun (r : Int32) (u : va_W) => r = ztix kn what (zsumI sp (zlast se n)) tk ∧ u = [(md, .inr (3, [.int (nI (zkc kn)), .int (nI n), .ref bw, .ref bf, .ref bv, .ref bz, .int (nI kn), .ref bsp, .ref bdt, .ref bdr, .ref bhd, .ref bmv, .ref bod, .int (nI pl), .int (nI cr), .int (nI tk)])), (bz, .inl (cZ, 16, .inl se)), (bsp, .inl (cI, 16, .inl sp))]) := by
  refine z_ofi (cc := zc_M_ticks) (maxL := 4) (ret := (some .int)) (by decide) rfl (Nat.le_of_ble_eq_true rfl) ?_
  intro p e s m below meth c A ls hx hb hr hml hown htz hlocks hin hA hP hK hD hS hl
  have hown : s.vm.findClass zR_M = some m.cls := hown
  have hl : lv_has ls 4 [(0, .ref md), (1, .int what)] := hl
  refine lv_aload_n hx hb zd_M_ticks_0 rfl (lv_at hl 0 rfl) ?_
  refine lv_aload_n hx hb zd_M_ticks_1 rfl (lv_at hl 0 rfl) ?_
  refine va_get (D := (dC, dI)) (ci := 3) (v := .int (nI kn)) (C := zR_M) (T := zF_M) (N := 16) hx hb htz zi_M hown hK hP 0 rfl rfl 6 (by decide) (htz _ zq_465) (fun _ h9 => h9) rfl zd_M_ticks_2 ?_
  refine lv_if_ne (tgt := 12) hx hb zd_M_ticks_5 (by decide) (fun c1_ => ?_) (fun c1_ => ?_)
  · have hk9 : ¬ kn = 0 := fun h => c1_ (by rw [h]; rfl)
    refine lv_iconst (v := (nI 0)) hx hb zd_M_ticks_12 (by decide) ?_
    refine lv_iconst (v := (nI 0)) hx hb zd_M_ticks_13 (by decide) ?_
    refine z_Vi (As := [.int (nI 0), .int (nI 0)]) (rest := []) (wc := [(md, .inr (3, [.int th, .int (nI n), .ref bw, .ref bf, .ref bv, .ref bz, .int (nI kn), .ref bsp, .ref bdt, .ref bdr, .ref bhd, .ref bmv, .ref bod, .int (nI pl), .int (nI cr), .int (nI tk)]))]) (wr := [(bz, .inl (cZ, 16, .inl se)), (bsp, .inl (cI, 16, .inl sp))]) ⟨hx, hb, hml, hown, htz⟩ hK hP hD hS hA (k_Model_fails_0 l dC dI cI cJ cZ md th n bw bf bv bz kn bsp bdt bdr bhd bmv bod pl cr tk s.heap.size) (zcwV 2 htz zq_523 zq_520 zq_522 zp_15 zq_6 (by decide +kernel) ⟨Nat.le_of_ble_eq_true rfl, Nat.le_of_ble_eq_true rfl⟩) 0 3 rfl rfl [0] [1, 2] rfl rfl rfl (by decide) rfl hl.1 rfl (Nat.le_of_ble_eq_true rfl) zd_M_ticks_14 ⟨Nat.le_of_ble_eq_true rfl, Nat.le_of_ble_eq_true rfl⟩ (fun r u H locs hw hP hD hS => ?_)
    obtain ⟨rfl, rfl⟩ := hw
    have hP : va_P (dC, dI) zcl [(bz, .inl (cZ, 16, .inl se)), (bsp, .inl (cI, 16, .inl sp)), (md, .inr (3, [.int (nI 0), .int (nI n), .ref bw, .ref bf, .ref bv, .ref bz, .int (nI kn), .ref bsp, .ref bdt, .ref bdr, .ref bhd, .ref bmv, .ref bod, .int (nI pl), .int (nI cr), .int (nI tk)]))] H := hP
    have hD : va_D A [(bz, .inl (cZ, 16, .inl se)), (bsp, .inl (cI, 16, .inl sp)), (md, .inr (3, [.int (nI 0), .int (nI n), .ref bw, .ref bf, .ref bv, .ref bz, .int (nI kn), .ref bsp, .ref bdt, .ref bdr, .ref bhd, .ref bmv, .ref bod, .int (nI pl), .int (nI cr), .int (nI tk)]))] := hD
    refine lv_if_eq (tgt := 22) hx hb zd_M_ticks_17 (by decide) (fun _ => ?_) (fun c2_ => absurd (by decide) c2_)
    refine lv_iconst (v := (nI 0)) hx hb zd_M_ticks_22 (by decide) ?_
    refine lv_istore_n (lv' := [(2, .int (nI 0)), (0, .ref md), (1, .int what)]) hx hb zd_M_ticks_23 rfl hl (by decide) rfl (fun ls hl => ?_)
    refine lv_iconst (v := (nI 0)) hx hb zd_M_ticks_24 (by decide) ?_
    refine lv_istore_n (lv' := [(3, .int (nI 0)), (2, .int (nI 0)), (0, .ref md), (1, .int what)]) hx hb zd_M_ticks_25 rfl hl (by decide) rfl (fun ls hl => ?_)
    have lp26 : ∀ (fuel : Nat) (k : Nat) (sm : Int32) (H : Heap) (locs : List Loc) (ls : Array Slot), (k ≤ n) → (sm = zsumI (fun s => if s ≤ zwin se n then sp s else 0) k) → n - k < fuel → va_P (dC, dI) zcl [(bz, .inl (cZ, 16, .inl se)), (bsp, .inl (cI, 16, .inl sp)), (md, .inr (3, [.int (nI 0), .int (nI n), .ref bw, .ref bf, .ref bv, .ref bz, .int (nI kn), .ref bsp, .ref bdt, .ref bdr, .ref bhd, .ref bmv, .ref bod, .int (nI pl), .int (nI cr), .int (nI tk)]))] H → va_D A [(bz, .inl (cZ, 16, .inl se)), (bsp, .inl (cI, 16, .inl sp)), (md, .inr (3, [.int (nI 0), .int (nI n), .ref bw, .ref bf, .ref bv, .ref bz, .int (nI kn), .ref bsp, .ref bdt, .ref bdr, .ref bhd, .ref bmv, .ref bod, .int (nI pl), .int (nI cr), .int (nI tk)]))] → va_S A s.heap H locs → lv_has ls 4 [(3, .int (nI k)), (2, .int sm), (0, .ref md), (1, .int what)] → W p l e ({ frames := 2, cells := 0, slots := 0, locals := 43 } : Room) s m [.ref md, .int what].toArray below meth c H locs 0 0 (MQ below (va_Qi (fun (r : Int32) (u : va_W) => r = ztix kn what (zsumI sp (zlast se n)) tk ∧ u = [(md, .inr (3, [.int (nI (zkc kn)), .int (nI n), .ref bw, .ref bf, .ref bv, .ref bz, .int (nI kn), .ref bsp, .ref bdt, .ref bdr, .ref bhd, .ref bmv, .ref bod, .int (nI pl), .int (nI cr), .int (nI tk)])), (bz, .inl (cZ, 16, .inl se)), (bsp, .inl (cI, 16, .inl sp))]) (zAt (dC, dI) zcl [(cI, .int), (cJ, .long), (cZ, .boolean)] A) A) [.ref md, .int what].toArray s 0 0 A) (F0 m 26 ls []) := by
      intro fuel
      induction fuel with
      | zero => intro k sm H locs ls hk hsm hf; exact absurd hf (Nat.not_lt_zero _)
      | succ fuel ih =>
        intro k sm H locs ls hk hsm hf hP hD hS hl
        refine lv_iload_n hx hb zd_M_ticks_26 rfl (lv_at hl 0 rfl) ?_
        refine lv_aload_n hx hb zd_M_ticks_27 rfl (lv_at hl 2 rfl) ?_
        refine va_get (D := (dC, dI)) (ci := 3) (v := .int (nI n)) (C := zR_M) (T := zF_M) (N := 16) hx hb htz zi_M hown hK hP 2 rfl rfl 1 (by decide) (htz _ zq_460) (fun _ h9 => h9) rfl zd_M_ticks_28 ?_
        refine lv_icmp_ge (tgt := 61) hx hb zd_M_ticks_31 (by decide) (fun c3_ => ?_) (fun c3_ => ?_)
        · have hk2 : k = n := Nat.le_antisymm hk (Nat.le_of_not_lt (fun h => nI_ge h (by omega) c3_))
          have hsm2 : sm = (zsumI sp (zlast se n)) := by rw [hsm, hk2, zsumI_cut, ← zlast_min]
          refine lv_iload_n hx hb zd_M_ticks_61 rfl (lv_at hl 3 rfl) ?_
          refine lv_if_ne (tgt := 69) hx hb zd_M_ticks_62 (by decide) (fun c4_ => ?_) (fun c4_ => ?_)
          · have w0 := c4_
            refine lv_iload_n hx hb zd_M_ticks_69 rfl (lv_at hl 3 rfl) ?_
            refine lv_iconst (v := (nI 1)) hx hb zd_M_ticks_70 (by decide) ?_
            refine lv_icmp_ne (tgt := 83) hx hb zd_M_ticks_71 (by decide) (fun c5_ => ?_) (fun c5_ => ?_)
            · have w1 := c5_
              refine lv_iload_n hx hb zd_M_ticks_83 rfl (lv_at hl 3 rfl) ?_
              refine lv_iconst (v := (nI 2)) hx hb zd_M_ticks_84 (by decide) ?_
              refine lv_icmp_ne (tgt := 95) hx hb zd_M_ticks_85 (by decide) (fun c6_ => ?_) (fun c6_ => ?_)
              · have w2 := c6_
                refine lv_iconst (v := (-1)) hx hb zd_M_ticks_95 (by decide) ?_
                have hP := hP.sub (ws' := [(md, .inr (3, [.int (nI 0), .int (nI n), .ref bw, .ref bf, .ref bv, .ref bz, .int (nI kn), .ref bsp, .ref bdt, .ref bdr, .ref bhd, .ref bmv, .ref bod, .int (nI pl), .int (nI cr), .int (nI tk)])), (bz, .inl (cZ, 16, .inl se)), (bsp, .inl (cI, 16, .inl sp))]) [2, 0, 1] rfl
                have hD := hD.sub (ws' := [(md, .inr (3, [.int (nI 0), .int (nI n), .ref bw, .ref bf, .ref bv, .ref bz, .int (nI kn), .ref bsp, .ref bdt, .ref bdr, .ref bhd, .ref bmv, .ref bod, .int (nI pl), .int (nI cr), .int (nI tk)])), (bz, .inl (cZ, 16, .inl se)), (bsp, .inl (cI, 16, .inl sp))]) [2, 0, 1] (by decide) rfl
                exact z_iret hx hb hr hlocks hP hK hD hS zd_M_ticks_96 (by decide) (by decide) ⟨by simp only [ztix]; rw [if_neg hk9, if_neg w0, if_neg w1, if_neg w2], by rw [zkc_0 hk9]⟩
              · have w2 := c6_
                refine lv_aload_n hx hb zd_M_ticks_88 rfl (lv_at hl 2 rfl) ?_
                refine va_get (D := (dC, dI)) (ci := 3) (v := .int (nI tk)) (C := zR_M) (T := zF_M) (N := 16) hx hb htz zi_M hown hK hP 2 rfl rfl 15 (by decide) (htz _ zq_474) (fun _ h9 => h9) rfl zd_M_ticks_89 ?_
                refine lv_goto (tgt := 96) hx hb zd_M_ticks_92 (by decide) ?_
                have hP := hP.sub (ws' := [(md, .inr (3, [.int (nI 0), .int (nI n), .ref bw, .ref bf, .ref bv, .ref bz, .int (nI kn), .ref bsp, .ref bdt, .ref bdr, .ref bhd, .ref bmv, .ref bod, .int (nI pl), .int (nI cr), .int (nI tk)])), (bz, .inl (cZ, 16, .inl se)), (bsp, .inl (cI, 16, .inl sp))]) [2, 0, 1] rfl
                have hD := hD.sub (ws' := [(md, .inr (3, [.int (nI 0), .int (nI n), .ref bw, .ref bf, .ref bv, .ref bz, .int (nI kn), .ref bsp, .ref bdt, .ref bdr, .ref bhd, .ref bmv, .ref bod, .int (nI pl), .int (nI cr), .int (nI tk)])), (bz, .inl (cZ, 16, .inl se)), (bsp, .inl (cI, 16, .inl sp))]) [2, 0, 1] (by decide) rfl
                exact z_iret hx hb hr hlocks hP hK hD hS zd_M_ticks_96 (by decide) (by decide) ⟨by simp only [ztix]; rw [if_neg hk9, if_neg w0, if_neg w1, if_pos w2], by rw [zkc_0 hk9]⟩
            · have w1 := c5_
              refine lv_aload_n hx hb zd_M_ticks_74 rfl (lv_at hl 2 rfl) ?_
              refine va_get (D := (dC, dI)) (ci := 3) (v := .int (nI tk)) (C := zR_M) (T := zF_M) (N := 16) hx hb htz zi_M hown hK hP 2 rfl rfl 15 (by decide) (htz _ zq_474) (fun _ h9 => h9) rfl zd_M_ticks_75 ?_
              refine lv_iload_n hx hb zd_M_ticks_78 rfl (lv_at hl 1 rfl) ?_
              refine lv_isub hx hb zd_M_ticks_79 ?_
              refine lv_goto (tgt := 96) hx hb zd_M_ticks_80 (by decide) ?_
              have hP := hP.sub (ws' := [(md, .inr (3, [.int (nI 0), .int (nI n), .ref bw, .ref bf, .ref bv, .ref bz, .int (nI kn), .ref bsp, .ref bdt, .ref bdr, .ref bhd, .ref bmv, .ref bod, .int (nI pl), .int (nI cr), .int (nI tk)])), (bz, .inl (cZ, 16, .inl se)), (bsp, .inl (cI, 16, .inl sp))]) [2, 0, 1] rfl
              have hD := hD.sub (ws' := [(md, .inr (3, [.int (nI 0), .int (nI n), .ref bw, .ref bf, .ref bv, .ref bz, .int (nI kn), .ref bsp, .ref bdt, .ref bdr, .ref bhd, .ref bmv, .ref bod, .int (nI pl), .int (nI cr), .int (nI tk)])), (bz, .inl (cZ, 16, .inl se)), (bsp, .inl (cI, 16, .inl sp))]) [2, 0, 1] (by decide) rfl
              exact z_iret hx hb hr hlocks hP hK hD hS zd_M_ticks_96 (by decide) (by decide) ⟨by simp only [ztix]; rw [if_neg hk9, if_neg w0, if_pos w1, hsm2], by rw [zkc_0 hk9]⟩
          · have w0 := c4_
            refine lv_iload_n hx hb zd_M_ticks_65 rfl (lv_at hl 1 rfl) ?_
            refine lv_goto (tgt := 96) hx hb zd_M_ticks_66 (by decide) ?_
            have hP := hP.sub (ws' := [(md, .inr (3, [.int (nI 0), .int (nI n), .ref bw, .ref bf, .ref bv, .ref bz, .int (nI kn), .ref bsp, .ref bdt, .ref bdr, .ref bhd, .ref bmv, .ref bod, .int (nI pl), .int (nI cr), .int (nI tk)])), (bz, .inl (cZ, 16, .inl se)), (bsp, .inl (cI, 16, .inl sp))]) [2, 0, 1] rfl
            have hD := hD.sub (ws' := [(md, .inr (3, [.int (nI 0), .int (nI n), .ref bw, .ref bf, .ref bv, .ref bz, .int (nI kn), .ref bsp, .ref bdt, .ref bdr, .ref bhd, .ref bmv, .ref bod, .int (nI pl), .int (nI cr), .int (nI tk)])), (bz, .inl (cZ, 16, .inl se)), (bsp, .inl (cI, 16, .inl sp))]) [2, 0, 1] (by decide) rfl
            exact z_iret hx hb hr hlocks hP hK hD hS zd_M_ticks_96 (by decide) (by decide) ⟨by simp only [ztix]; rw [if_neg hk9, if_pos w0, hsm2], by rw [zkc_0 hk9]⟩
        · have hk2 : k < n := Nat.lt_of_not_le (fun h => c3_ (nI_le h (by omega)))
          refine lv_iload_n hx hb zd_M_ticks_34 rfl (lv_at hl 1 rfl) ?_
          refine lv_aload_n hx hb zd_M_ticks_35 rfl (lv_at hl 2 rfl) ?_
          refine lv_iload_n hx hb zd_M_ticks_36 rfl (lv_at hl 0 rfl) ?_
          refine z_Vi (As := [.int (nI k)]) (rest := [.int sm]) (wc := [(md, .inr (3, [.int (nI 0), .int (nI n), .ref bw, .ref bf, .ref bv, .ref bz, .int (nI kn), .ref bsp, .ref bdt, .ref bdr, .ref bhd, .ref bmv, .ref bod, .int (nI pl), .int (nI cr), .int (nI tk)])), (bz, .inl (cZ, 16, .inl se))]) (wr := [(bsp, .inl (cI, 16, .inl sp))]) ⟨hx, hb, hml, hown, htz⟩ hK hP hD hS hA (k_Model_counts_k l dC dI cI cJ cZ md (nI 0) n bw bf bv bz kn bsp bdt bdr bhd bmv bod pl cr tk se k (by first | assumption | omega) (by first | assumption | omega) H.size) (zcwV 1 htz zq_573 zq_570 zq_572 zp_23 zq_6 (by decide +kernel) ⟨Nat.le_of_ble_eq_true rfl, Nat.le_of_ble_eq_true rfl⟩) 2 3 rfl rfl [2, 0] [1] rfl rfl rfl (by decide) rfl hl.1 rfl (Nat.le_of_ble_eq_true rfl) zd_M_ticks_37 ⟨Nat.le_of_ble_eq_true rfl, Nat.le_of_ble_eq_true rfl⟩ (fun r u H locs hw hP hD hS => ?_)
          rcases hw with ⟨rfl, rfl, hb7_⟩ | ⟨rfl, rfl, hb8_⟩
          · have hP : va_P (dC, dI) zcl [(bsp, .inl (cI, 16, .inl sp)), (md, .inr (3, [.int (nI 0), .int (nI n), .ref bw, .ref bf, .ref bv, .ref bz, .int (nI kn), .ref bsp, .ref bdt, .ref bdr, .ref bhd, .ref bmv, .ref bod, .int (nI pl), .int (nI cr), .int (nI tk)])), (bz, .inl (cZ, 16, .inl se))] H := hP
            have hD : va_D A [(bsp, .inl (cI, 16, .inl sp)), (md, .inr (3, [.int (nI 0), .int (nI n), .ref bw, .ref bf, .ref bv, .ref bz, .int (nI kn), .ref bsp, .ref bdt, .ref bdr, .ref bhd, .ref bmv, .ref bod, .int (nI pl), .int (nI cr), .int (nI tk)])), (bz, .inl (cZ, 16, .inl se))] := hD
            have hct := hb7_
            refine lv_if_eq (tgt := 52) hx hb zd_M_ticks_40 (by decide) (fun c9_ => absurd c9_ (by decide)) (fun _ => ?_)
            refine lv_aload_n hx hb zd_M_ticks_43 rfl (lv_at hl 2 rfl) ?_
            refine va_get (D := (dC, dI)) (ci := 3) (v := .ref bsp) (C := zR_M) (T := zF_M) (N := 16) hx hb htz zi_M hown hK hP 1 rfl rfl 7 (by decide) (htz _ zq_466) (fun _ h9 => h9) rfl zd_M_ticks_44 ?_
            refine lv_iload_n hx hb zd_M_ticks_47 rfl (lv_at hl 0 rfl) ?_
            refine z_iald hx hb hK hP 0 0 rfl rfl (j := k) (by omega) (by decide) zd_M_ticks_48 ?_
            refine lv_goto (tgt := 53) hx hb zd_M_ticks_49 (by decide) ?_
            refine lv_iadd hx hb zd_M_ticks_53 ?_
            refine z_topi (y := zsumI (fun s => if s ≤ zwin se n then sp s else 0) (k + 1)) (by simp only [zsumI]; rw [hsm, if_pos hct]; first | done | rfl) ?_
            refine lv_istore_n (lv' := [(2, .int (zsumI (fun s => if s ≤ zwin se n then sp s else 0) (k + 1))), (3, .int (nI k)), (0, .ref md), (1, .int what)]) hx hb zd_M_ticks_54 rfl hl (by decide) rfl (fun ls hl => ?_)
            refine lv_iinc (v := (nI (k + 1))) (lv' := [(3, .int (nI (k + 1))), (2, .int (zsumI (fun s => if s ≤ zwin se n then sp s else 0) (k + 1))), (0, .ref md), (1, .int what)]) hx hb zd_M_ticks_55 hl (k := 1) rfl (nI_1 k) (by decide) rfl (fun ls hl => ?_)
            refine lv_goto (tgt := 26) hx hb zd_M_ticks_58 (by decide) ?_
            exact ih (k + 1) (zsumI (fun s => if s ≤ zwin se n then sp s else 0) (k + 1)) _ _ _ (by omega) rfl (by omega) (hP.sub [2, 0, 1] rfl) (hD.sub [2, 0, 1] (by decide) rfl) hS hl
          · have hP : va_P (dC, dI) zcl [(bsp, .inl (cI, 16, .inl sp)), (md, .inr (3, [.int (nI 0), .int (nI n), .ref bw, .ref bf, .ref bv, .ref bz, .int (nI kn), .ref bsp, .ref bdt, .ref bdr, .ref bhd, .ref bmv, .ref bod, .int (nI pl), .int (nI cr), .int (nI tk)])), (bz, .inl (cZ, 16, .inl se))] H := hP
            have hD : va_D A [(bsp, .inl (cI, 16, .inl sp)), (md, .inr (3, [.int (nI 0), .int (nI n), .ref bw, .ref bf, .ref bv, .ref bz, .int (nI kn), .ref bsp, .ref bdt, .ref bdr, .ref bhd, .ref bmv, .ref bod, .int (nI pl), .int (nI cr), .int (nI tk)])), (bz, .inl (cZ, 16, .inl se))] := hD
            have hct := hb8_
            refine lv_if_eq (tgt := 52) hx hb zd_M_ticks_40 (by decide) (fun _ => ?_) (fun c10_ => absurd (by decide) c10_)
            refine lv_iconst (v := (nI 0)) hx hb zd_M_ticks_52 (by decide) ?_
            refine lv_iadd hx hb zd_M_ticks_53 ?_
            refine z_topi (y := zsumI (fun s => if s ≤ zwin se n then sp s else 0) (k + 1)) (by simp only [zsumI]; rw [hsm, if_neg (by omega)]; first | done | rfl) ?_
            refine lv_istore_n (lv' := [(2, .int (zsumI (fun s => if s ≤ zwin se n then sp s else 0) (k + 1))), (3, .int (nI k)), (0, .ref md), (1, .int what)]) hx hb zd_M_ticks_54 rfl hl (by decide) rfl (fun ls hl => ?_)
            refine lv_iinc (v := (nI (k + 1))) (lv' := [(3, .int (nI (k + 1))), (2, .int (zsumI (fun s => if s ≤ zwin se n then sp s else 0) (k + 1))), (0, .ref md), (1, .int what)]) hx hb zd_M_ticks_55 hl (k := 1) rfl (nI_1 k) (by decide) rfl (fun ls hl => ?_)
            refine lv_goto (tgt := 26) hx hb zd_M_ticks_58 (by decide) ?_
            exact ih (k + 1) (zsumI (fun s => if s ≤ zwin se n then sp s else 0) (k + 1)) _ _ _ (by omega) rfl (by omega) (hP.sub [2, 0, 1] rfl) (hD.sub [2, 0, 1] (by decide) rfl) hS hl
    exact lp26 _ 0 (nI 0) _ _ _ (Nat.zero_le _) rfl (Nat.lt_succ_self _) hP hD hS hl
  · have hk9 : kn = 0 := (nI_eq (b := 0) (by omega) (by decide)).mp c1_
    refine lv_iconst (v := (nI 1)) hx hb zd_M_ticks_8 (by decide) ?_
    refine lv_goto (tgt := 13) hx hb zd_M_ticks_9 (by decide) ?_
    refine lv_iconst (v := (nI 0)) hx hb zd_M_ticks_13 (by decide) ?_
    refine z_Vi (As := [.int (nI 1), .int (nI 0)]) (rest := []) (wc := [(md, .inr (3, [.int th, .int (nI n), .ref bw, .ref bf, .ref bv, .ref bz, .int (nI kn), .ref bsp, .ref bdt, .ref bdr, .ref bhd, .ref bmv, .ref bod, .int (nI pl), .int (nI cr), .int (nI tk)]))]) (wr := [(bz, .inl (cZ, 16, .inl se)), (bsp, .inl (cI, 16, .inl sp))]) ⟨hx, hb, hml, hown, htz⟩ hK hP hD hS hA (k_Model_fails_1 l dC dI cI cJ cZ md th n bw bf bv bz kn bsp bdt bdr bhd bmv bod pl cr tk (nI 0) s.heap.size) (zcwV 2 htz zq_523 zq_520 zq_522 zp_15 zq_6 (by decide +kernel) ⟨Nat.le_of_ble_eq_true rfl, Nat.le_of_ble_eq_true rfl⟩) 0 3 rfl rfl [0] [1, 2] rfl rfl rfl (by decide) rfl hl.1 rfl (Nat.le_of_ble_eq_true rfl) zd_M_ticks_14 ⟨Nat.le_of_ble_eq_true rfl, Nat.le_of_ble_eq_true rfl⟩ (fun r u H locs hw hP hD hS => ?_)
    obtain ⟨rfl, rfl⟩ := hw
    have hP : va_P (dC, dI) zcl [(bz, .inl (cZ, 16, .inl se)), (bsp, .inl (cI, 16, .inl sp)), (md, .inr (3, [.int (nI 1), .int (nI n), .ref bw, .ref bf, .ref bv, .ref bz, .int (nI kn), .ref bsp, .ref bdt, .ref bdr, .ref bhd, .ref bmv, .ref bod, .int (nI pl), .int (nI cr), .int (nI tk)]))] H := hP
    have hD : va_D A [(bz, .inl (cZ, 16, .inl se)), (bsp, .inl (cI, 16, .inl sp)), (md, .inr (3, [.int (nI 1), .int (nI n), .ref bw, .ref bf, .ref bv, .ref bz, .int (nI kn), .ref bsp, .ref bdt, .ref bdr, .ref bhd, .ref bmv, .ref bod, .int (nI pl), .int (nI cr), .int (nI tk)]))] := hD
    refine lv_if_eq (tgt := 22) hx hb zd_M_ticks_17 (by decide) (fun c11_ => absurd c11_ (by decide)) (fun _ => ?_)
    refine lv_iconst (v := (nI 0)) hx hb zd_M_ticks_20 (by decide) ?_
    have hP := hP.sub (ws' := [(md, .inr (3, [.int (nI 1), .int (nI n), .ref bw, .ref bf, .ref bv, .ref bz, .int (nI kn), .ref bsp, .ref bdt, .ref bdr, .ref bhd, .ref bmv, .ref bod, .int (nI pl), .int (nI cr), .int (nI tk)])), (bz, .inl (cZ, 16, .inl se)), (bsp, .inl (cI, 16, .inl sp))]) [2, 0, 1] rfl
    have hD := hD.sub (ws' := [(md, .inr (3, [.int (nI 1), .int (nI n), .ref bw, .ref bf, .ref bv, .ref bz, .int (nI kn), .ref bsp, .ref bdt, .ref bdr, .ref bhd, .ref bmv, .ref bod, .int (nI pl), .int (nI cr), .int (nI tk)])), (bz, .inl (cZ, 16, .inl se)), (bsp, .inl (cI, 16, .inl sp))]) [2, 0, 1] (by decide) rfl
    exact z_iret hx hb hr hlocks hP hK hD hS zd_M_ticks_21 (by decide) (by decide) ⟨by simp only [ztix]; rw [if_pos hk9]; first | done | rfl, by rw [zkc_1 hk9]⟩
set_option maxHeartbeats 4000000 in
set_option maxRecDepth 100000 in
/--  -/
theorem k_Model_worked (l : Launch) (dC : Nat → ClassId) (dI : Nat → Nat → Nat) (cI cJ cZ : ClassId) (md : Nat) (th : Int32) (n : Nat) (bw : Nat) (bf : Nat) (bv : Nat) (bz : Nat) (kn : Nat) (bsp : Nat) (bdt : Nat) (bdr : Nat) (bhd : Nat) (bmv : Nat) (bod : Nat) (pl : Nat) (cr : Nat) (tk : Nat) (mv : Nat → Int32) (sh : Int32) (hkn : kn ≤ 1) (hbd : cr ≤ 16) (sz : Nat) : zMi l zy_M_worked zw_M_worked ({ frames := 1, cells := 0, slots := 0, locals := 22 }) [.ref md, .int sh] (dC, dI) zcl [(cI, .int), (cJ, .long), (cZ, .boolean)] [(md, .inr (3, [.int th, .int (nI n), .ref bw, .ref bf, .ref bv, .ref bz, .int (nI kn), .ref bsp, .ref bdt, .ref bdr, .ref bhd, .ref bmv, .ref bod, .int (nI pl), .int (nI cr), .int (nI tk)])), (bmv, .inl (cI, 16, .inl mv))] sz (fun (r : Int32) (u : va_W) => r = zrd (zkc2 kn cr sh) mv sh ∧ u = [(md, .inr (3, [.int (nI (zkc2 kn cr sh)), .int (nI n), .ref bw, .ref bf, .ref bv, .ref bz, .int (nI kn), .ref bsp, .ref bdt, .ref bdr, .ref bhd, .ref bmv, .ref bod, .int (nI pl), .int (nI cr), .int (nI tk)])), (bmv, .inl (cI, 16, .inl mv))]) := by
  refine z_ofi (cc := zc_M_worked) (maxL := 2) (ret := (some .int)) (by decide) rfl (Nat.le_of_ble_eq_true rfl) ?_
  intro p e s m below meth c A ls hx hb hr hml hown htz hlocks hin hA hP hK hD hS hl
  have hown : s.vm.findClass zR_M = some m.cls := hown
  have hl : lv_has ls 2 [(0, .ref md), (1, .int sh)] := hl
  refine lv_aload_n hx hb zd_M_worked_0 rfl (lv_at hl 0 rfl) ?_
  refine lv_aload_n hx hb zd_M_worked_1 rfl (lv_at hl 0 rfl) ?_
  refine va_get (D := (dC, dI)) (ci := 3) (v := .int (nI kn)) (C := zR_M) (T := zF_M) (N := 16) hx hb htz zi_M hown hK hP 0 rfl rfl 6 (by decide) (htz _ zq_465) (fun _ h9 => h9) rfl zd_M_worked_2 ?_
  refine lv_if_ne (tgt := 12) hx hb zd_M_worked_5 (by decide) (fun c1_ => ?_) (fun c1_ => ?_)
  · have hk9 : ¬ kn = 0 := fun h => c1_ (by rw [h]; rfl)
    refine lv_iconst (v := (nI 0)) hx hb zd_M_worked_12 (by decide) ?_
    refine lv_iload_n hx hb zd_M_worked_13 rfl (lv_at hl 1 rfl) ?_
    refine lv_if_lt (tgt := 25) hx hb zd_M_worked_14 (by decide) (fun c2_ => ?_) (fun c2_ => ?_)
    · have hno9 := z_neg (n := cr) (by omega) c2_
      refine lv_iconst (v := (nI 1)) hx hb zd_M_worked_25 (by decide) ?_
      refine lv_goto (tgt := 30) hx hb zd_M_worked_26 (by decide) ?_
      refine z_Vi (As := [.int (nI 0), .int (nI 1)]) (rest := []) (wc := [(md, .inr (3, [.int th, .int (nI n), .ref bw, .ref bf, .ref bv, .ref bz, .int (nI kn), .ref bsp, .ref bdt, .ref bdr, .ref bhd, .ref bmv, .ref bod, .int (nI pl), .int (nI cr), .int (nI tk)]))]) (wr := [(bmv, .inl (cI, 16, .inl mv))]) ⟨hx, hb, hml, hown, htz⟩ hK hP hD hS hA (k_Model_fails_2 l dC dI cI cJ cZ md th n bw bf bv bz kn bsp bdt bdr bhd bmv bod pl cr tk s.heap.size) (zcwV 2 htz zq_523 zq_520 zq_522 zp_15 zq_6 (by decide +kernel) ⟨Nat.le_of_ble_eq_true rfl, Nat.le_of_ble_eq_true rfl⟩) 0 3 rfl rfl [0] [1] rfl rfl rfl (by decide) rfl hl.1 rfl (Nat.le_of_ble_eq_true rfl) zd_M_worked_30 ⟨Nat.le_of_ble_eq_true rfl, Nat.le_of_ble_eq_true rfl⟩ (fun r u H locs hw hP hD hS => ?_)
      obtain ⟨rfl, rfl⟩ := hw
      have hP : va_P (dC, dI) zcl [(bmv, .inl (cI, 16, .inl mv)), (md, .inr (3, [.int (nI 2), .int (nI n), .ref bw, .ref bf, .ref bv, .ref bz, .int (nI kn), .ref bsp, .ref bdt, .ref bdr, .ref bhd, .ref bmv, .ref bod, .int (nI pl), .int (nI cr), .int (nI tk)]))] H := hP
      have hD : va_D A [(bmv, .inl (cI, 16, .inl mv)), (md, .inr (3, [.int (nI 2), .int (nI n), .ref bw, .ref bf, .ref bv, .ref bz, .int (nI kn), .ref bsp, .ref bdt, .ref bdr, .ref bhd, .ref bmv, .ref bod, .int (nI pl), .int (nI cr), .int (nI tk)]))] := hD
      refine lv_if_eq (tgt := 38) hx hb zd_M_worked_33 (by decide) (fun c3_ => absurd c3_ (by decide)) (fun _ => ?_)
      refine lv_iconst (v := (nI 0)) hx hb zd_M_worked_36 (by decide) ?_
      have hP := hP.sub (ws' := [(md, .inr (3, [.int (nI 2), .int (nI n), .ref bw, .ref bf, .ref bv, .ref bz, .int (nI kn), .ref bsp, .ref bdt, .ref bdr, .ref bhd, .ref bmv, .ref bod, .int (nI pl), .int (nI cr), .int (nI tk)])), (bmv, .inl (cI, 16, .inl mv))]) [1, 0] rfl
      have hD := hD.sub (ws' := [(md, .inr (3, [.int (nI 2), .int (nI n), .ref bw, .ref bf, .ref bv, .ref bz, .int (nI kn), .ref bsp, .ref bdt, .ref bdr, .ref bhd, .ref bmv, .ref bod, .int (nI pl), .int (nI cr), .int (nI tk)])), (bmv, .inl (cI, 16, .inl mv))]) [1, 0] (by decide) rfl
      exact z_iret hx hb hr hlocks hP hK hD hS zd_M_worked_37 (by decide) (by decide) ⟨by simp only [zrd]; rw [zkc2_2 hk9 (by omega) hno9]; first | done | rfl, by rw [zkc2_2 hk9 (by omega) hno9]⟩
    · have h0_ := c2_
      refine lv_iload_n hx hb zd_M_worked_17 rfl (lv_at hl 1 rfl) ?_
      refine lv_aload_n hx hb zd_M_worked_18 rfl (lv_at hl 0 rfl) ?_
      refine va_get (D := (dC, dI)) (ci := 3) (v := .int (nI cr)) (C := zR_M) (T := zF_M) (N := 16) hx hb htz zi_M hown hK hP 0 rfl rfl 14 (by decide) (htz _ zq_473) (fun _ h9 => h9) rfl zd_M_worked_19 ?_
      refine lv_icmp_lt (tgt := 29) hx hb zd_M_worked_22 (by decide) (fun c4_ => ?_) (fun c4_ => ?_)
      · obtain ⟨j9, hj9, ej9⟩ := z_has (n := cr) (by omega) h0_ (fun h => absurd c4_ (z_nlt h))
        refine lv_iconst (v := (nI 0)) hx hb zd_M_worked_29 (by decide) ?_
        refine z_Vi (As := [.int (nI 0), .int (nI 0)]) (rest := []) (wc := [(md, .inr (3, [.int th, .int (nI n), .ref bw, .ref bf, .ref bv, .ref bz, .int (nI kn), .ref bsp, .ref bdt, .ref bdr, .ref bhd, .ref bmv, .ref bod, .int (nI pl), .int (nI cr), .int (nI tk)]))]) (wr := [(bmv, .inl (cI, 16, .inl mv))]) ⟨hx, hb, hml, hown, htz⟩ hK hP hD hS hA (k_Model_fails_0 l dC dI cI cJ cZ md th n bw bf bv bz kn bsp bdt bdr bhd bmv bod pl cr tk s.heap.size) (zcwV 2 htz zq_523 zq_520 zq_522 zp_15 zq_6 (by decide +kernel) ⟨Nat.le_of_ble_eq_true rfl, Nat.le_of_ble_eq_true rfl⟩) 0 3 rfl rfl [0] [1] rfl rfl rfl (by decide) rfl hl.1 rfl (Nat.le_of_ble_eq_true rfl) zd_M_worked_30 ⟨Nat.le_of_ble_eq_true rfl, Nat.le_of_ble_eq_true rfl⟩ (fun r u H locs hw hP hD hS => ?_)
        obtain ⟨rfl, rfl⟩ := hw
        have hP : va_P (dC, dI) zcl [(bmv, .inl (cI, 16, .inl mv)), (md, .inr (3, [.int (nI 0), .int (nI n), .ref bw, .ref bf, .ref bv, .ref bz, .int (nI kn), .ref bsp, .ref bdt, .ref bdr, .ref bhd, .ref bmv, .ref bod, .int (nI pl), .int (nI cr), .int (nI tk)]))] H := hP
        have hD : va_D A [(bmv, .inl (cI, 16, .inl mv)), (md, .inr (3, [.int (nI 0), .int (nI n), .ref bw, .ref bf, .ref bv, .ref bz, .int (nI kn), .ref bsp, .ref bdt, .ref bdr, .ref bhd, .ref bmv, .ref bod, .int (nI pl), .int (nI cr), .int (nI tk)]))] := hD
        refine lv_if_eq (tgt := 38) hx hb zd_M_worked_33 (by decide) (fun _ => ?_) (fun c5_ => absurd (by decide) c5_)
        refine lv_aload_n hx hb zd_M_worked_38 rfl (lv_at hl 0 rfl) ?_
        refine va_get (D := (dC, dI)) (ci := 3) (v := .ref bmv) (C := zR_M) (T := zF_M) (N := 16) hx hb htz zi_M hown hK hP 1 rfl rfl 11 (by decide) (htz _ zq_470) (fun _ h9 => h9) rfl zd_M_worked_39 ?_
        refine lv_iload_n hx hb zd_M_worked_42 rfl (lv_at hl 1 rfl) ?_
        refine z_topi (y := nI j9) ej9 ?_
        refine z_iald hx hb hK hP 0 0 rfl rfl (j := j9) (by omega) (by decide) zd_M_worked_43 ?_
        have hP := hP.sub (ws' := [(md, .inr (3, [.int (nI 0), .int (nI n), .ref bw, .ref bf, .ref bv, .ref bz, .int (nI kn), .ref bsp, .ref bdt, .ref bdr, .ref bhd, .ref bmv, .ref bod, .int (nI pl), .int (nI cr), .int (nI tk)])), (bmv, .inl (cI, 16, .inl mv))]) [1, 0] rfl
        have hD := hD.sub (ws' := [(md, .inr (3, [.int (nI 0), .int (nI n), .ref bw, .ref bf, .ref bv, .ref bz, .int (nI kn), .ref bsp, .ref bdt, .ref bdr, .ref bhd, .ref bmv, .ref bod, .int (nI pl), .int (nI cr), .int (nI tk)])), (bmv, .inl (cI, 16, .inl mv))]) [1, 0] (by decide) rfl
        exact z_iret hx hb hr hlocks hP hK hD hS zd_M_worked_44 (by decide) (by decide) ⟨by rw [ej9, zkc2_0 hk9 (by omega) hj9]; simp only [zrd]; rw [nI_clamp (by omega)]; first | done | rfl, by rw [ej9, zkc2_0 hk9 (by omega) hj9]⟩
      · have hno9 := z_big (n := cr) (by omega) (Int32.not_lt.mp c4_)
        refine lv_iconst (v := (nI 1)) hx hb zd_M_worked_25 (by decide) ?_
        refine lv_goto (tgt := 30) hx hb zd_M_worked_26 (by decide) ?_
        refine z_Vi (As := [.int (nI 0), .int (nI 1)]) (rest := []) (wc := [(md, .inr (3, [.int th, .int (nI n), .ref bw, .ref bf, .ref bv, .ref bz, .int (nI kn), .ref bsp, .ref bdt, .ref bdr, .ref bhd, .ref bmv, .ref bod, .int (nI pl), .int (nI cr), .int (nI tk)]))]) (wr := [(bmv, .inl (cI, 16, .inl mv))]) ⟨hx, hb, hml, hown, htz⟩ hK hP hD hS hA (k_Model_fails_2 l dC dI cI cJ cZ md th n bw bf bv bz kn bsp bdt bdr bhd bmv bod pl cr tk s.heap.size) (zcwV 2 htz zq_523 zq_520 zq_522 zp_15 zq_6 (by decide +kernel) ⟨Nat.le_of_ble_eq_true rfl, Nat.le_of_ble_eq_true rfl⟩) 0 3 rfl rfl [0] [1] rfl rfl rfl (by decide) rfl hl.1 rfl (Nat.le_of_ble_eq_true rfl) zd_M_worked_30 ⟨Nat.le_of_ble_eq_true rfl, Nat.le_of_ble_eq_true rfl⟩ (fun r u H locs hw hP hD hS => ?_)
        obtain ⟨rfl, rfl⟩ := hw
        have hP : va_P (dC, dI) zcl [(bmv, .inl (cI, 16, .inl mv)), (md, .inr (3, [.int (nI 2), .int (nI n), .ref bw, .ref bf, .ref bv, .ref bz, .int (nI kn), .ref bsp, .ref bdt, .ref bdr, .ref bhd, .ref bmv, .ref bod, .int (nI pl), .int (nI cr), .int (nI tk)]))] H := hP
        have hD : va_D A [(bmv, .inl (cI, 16, .inl mv)), (md, .inr (3, [.int (nI 2), .int (nI n), .ref bw, .ref bf, .ref bv, .ref bz, .int (nI kn), .ref bsp, .ref bdt, .ref bdr, .ref bhd, .ref bmv, .ref bod, .int (nI pl), .int (nI cr), .int (nI tk)]))] := hD
        refine lv_if_eq (tgt := 38) hx hb zd_M_worked_33 (by decide) (fun c6_ => absurd c6_ (by decide)) (fun _ => ?_)
        refine lv_iconst (v := (nI 0)) hx hb zd_M_worked_36 (by decide) ?_
        have hP := hP.sub (ws' := [(md, .inr (3, [.int (nI 2), .int (nI n), .ref bw, .ref bf, .ref bv, .ref bz, .int (nI kn), .ref bsp, .ref bdt, .ref bdr, .ref bhd, .ref bmv, .ref bod, .int (nI pl), .int (nI cr), .int (nI tk)])), (bmv, .inl (cI, 16, .inl mv))]) [1, 0] rfl
        have hD := hD.sub (ws' := [(md, .inr (3, [.int (nI 2), .int (nI n), .ref bw, .ref bf, .ref bv, .ref bz, .int (nI kn), .ref bsp, .ref bdt, .ref bdr, .ref bhd, .ref bmv, .ref bod, .int (nI pl), .int (nI cr), .int (nI tk)])), (bmv, .inl (cI, 16, .inl mv))]) [1, 0] (by decide) rfl
        exact z_iret hx hb hr hlocks hP hK hD hS zd_M_worked_37 (by decide) (by decide) ⟨by simp only [zrd]; rw [zkc2_2 hk9 (by omega) hno9]; first | done | rfl, by rw [zkc2_2 hk9 (by omega) hno9]⟩
  · have hk9 : kn = 0 := (nI_eq (b := 0) (by omega) (by decide)).mp c1_
    refine lv_iconst (v := (nI 1)) hx hb zd_M_worked_8 (by decide) ?_
    refine lv_goto (tgt := 13) hx hb zd_M_worked_9 (by decide) ?_
    refine lv_iload_n hx hb zd_M_worked_13 rfl (lv_at hl 1 rfl) ?_
    refine lv_if_lt (tgt := 25) hx hb zd_M_worked_14 (by decide) (fun c7_ => ?_) (fun c7_ => ?_)
    · have hno9 := z_neg (n := cr) (by omega) c7_
      refine lv_iconst (v := (nI 1)) hx hb zd_M_worked_25 (by decide) ?_
      refine lv_goto (tgt := 30) hx hb zd_M_worked_26 (by decide) ?_
      refine z_Vi (As := [.int (nI 1), .int (nI 1)]) (rest := []) (wc := [(md, .inr (3, [.int th, .int (nI n), .ref bw, .ref bf, .ref bv, .ref bz, .int (nI kn), .ref bsp, .ref bdt, .ref bdr, .ref bhd, .ref bmv, .ref bod, .int (nI pl), .int (nI cr), .int (nI tk)]))]) (wr := [(bmv, .inl (cI, 16, .inl mv))]) ⟨hx, hb, hml, hown, htz⟩ hK hP hD hS hA (k_Model_fails_1 l dC dI cI cJ cZ md th n bw bf bv bz kn bsp bdt bdr bhd bmv bod pl cr tk (nI 1) s.heap.size) (zcwV 2 htz zq_523 zq_520 zq_522 zp_15 zq_6 (by decide +kernel) ⟨Nat.le_of_ble_eq_true rfl, Nat.le_of_ble_eq_true rfl⟩) 0 3 rfl rfl [0] [1] rfl rfl rfl (by decide) rfl hl.1 rfl (Nat.le_of_ble_eq_true rfl) zd_M_worked_30 ⟨Nat.le_of_ble_eq_true rfl, Nat.le_of_ble_eq_true rfl⟩ (fun r u H locs hw hP hD hS => ?_)
      obtain ⟨rfl, rfl⟩ := hw
      have hP : va_P (dC, dI) zcl [(bmv, .inl (cI, 16, .inl mv)), (md, .inr (3, [.int (nI 1), .int (nI n), .ref bw, .ref bf, .ref bv, .ref bz, .int (nI kn), .ref bsp, .ref bdt, .ref bdr, .ref bhd, .ref bmv, .ref bod, .int (nI pl), .int (nI cr), .int (nI tk)]))] H := hP
      have hD : va_D A [(bmv, .inl (cI, 16, .inl mv)), (md, .inr (3, [.int (nI 1), .int (nI n), .ref bw, .ref bf, .ref bv, .ref bz, .int (nI kn), .ref bsp, .ref bdt, .ref bdr, .ref bhd, .ref bmv, .ref bod, .int (nI pl), .int (nI cr), .int (nI tk)]))] := hD
      refine lv_if_eq (tgt := 38) hx hb zd_M_worked_33 (by decide) (fun c8_ => absurd c8_ (by decide)) (fun _ => ?_)
      refine lv_iconst (v := (nI 0)) hx hb zd_M_worked_36 (by decide) ?_
      have hP := hP.sub (ws' := [(md, .inr (3, [.int (nI 1), .int (nI n), .ref bw, .ref bf, .ref bv, .ref bz, .int (nI kn), .ref bsp, .ref bdt, .ref bdr, .ref bhd, .ref bmv, .ref bod, .int (nI pl), .int (nI cr), .int (nI tk)])), (bmv, .inl (cI, 16, .inl mv))]) [1, 0] rfl
      have hD := hD.sub (ws' := [(md, .inr (3, [.int (nI 1), .int (nI n), .ref bw, .ref bf, .ref bv, .ref bz, .int (nI kn), .ref bsp, .ref bdt, .ref bdr, .ref bhd, .ref bmv, .ref bod, .int (nI pl), .int (nI cr), .int (nI tk)])), (bmv, .inl (cI, 16, .inl mv))]) [1, 0] (by decide) rfl
      exact z_iret hx hb hr hlocks hP hK hD hS zd_M_worked_37 (by decide) (by decide) ⟨by simp only [zrd]; rw [zkc2_1 hk9]; first | done | rfl, by rw [zkc2_1 hk9]⟩
    · have h0_ := c7_
      refine lv_iload_n hx hb zd_M_worked_17 rfl (lv_at hl 1 rfl) ?_
      refine lv_aload_n hx hb zd_M_worked_18 rfl (lv_at hl 0 rfl) ?_
      refine va_get (D := (dC, dI)) (ci := 3) (v := .int (nI cr)) (C := zR_M) (T := zF_M) (N := 16) hx hb htz zi_M hown hK hP 0 rfl rfl 14 (by decide) (htz _ zq_473) (fun _ h9 => h9) rfl zd_M_worked_19 ?_
      refine lv_icmp_lt (tgt := 29) hx hb zd_M_worked_22 (by decide) (fun c9_ => ?_) (fun c9_ => ?_)
      · obtain ⟨j9, hj9, ej9⟩ := z_has (n := cr) (by omega) h0_ (fun h => absurd c9_ (z_nlt h))
        refine lv_iconst (v := (nI 0)) hx hb zd_M_worked_29 (by decide) ?_
        refine z_Vi (As := [.int (nI 1), .int (nI 0)]) (rest := []) (wc := [(md, .inr (3, [.int th, .int (nI n), .ref bw, .ref bf, .ref bv, .ref bz, .int (nI kn), .ref bsp, .ref bdt, .ref bdr, .ref bhd, .ref bmv, .ref bod, .int (nI pl), .int (nI cr), .int (nI tk)]))]) (wr := [(bmv, .inl (cI, 16, .inl mv))]) ⟨hx, hb, hml, hown, htz⟩ hK hP hD hS hA (k_Model_fails_1 l dC dI cI cJ cZ md th n bw bf bv bz kn bsp bdt bdr bhd bmv bod pl cr tk (nI 0) s.heap.size) (zcwV 2 htz zq_523 zq_520 zq_522 zp_15 zq_6 (by decide +kernel) ⟨Nat.le_of_ble_eq_true rfl, Nat.le_of_ble_eq_true rfl⟩) 0 3 rfl rfl [0] [1] rfl rfl rfl (by decide) rfl hl.1 rfl (Nat.le_of_ble_eq_true rfl) zd_M_worked_30 ⟨Nat.le_of_ble_eq_true rfl, Nat.le_of_ble_eq_true rfl⟩ (fun r u H locs hw hP hD hS => ?_)
        obtain ⟨rfl, rfl⟩ := hw
        have hP : va_P (dC, dI) zcl [(bmv, .inl (cI, 16, .inl mv)), (md, .inr (3, [.int (nI 1), .int (nI n), .ref bw, .ref bf, .ref bv, .ref bz, .int (nI kn), .ref bsp, .ref bdt, .ref bdr, .ref bhd, .ref bmv, .ref bod, .int (nI pl), .int (nI cr), .int (nI tk)]))] H := hP
        have hD : va_D A [(bmv, .inl (cI, 16, .inl mv)), (md, .inr (3, [.int (nI 1), .int (nI n), .ref bw, .ref bf, .ref bv, .ref bz, .int (nI kn), .ref bsp, .ref bdt, .ref bdr, .ref bhd, .ref bmv, .ref bod, .int (nI pl), .int (nI cr), .int (nI tk)]))] := hD
        refine lv_if_eq (tgt := 38) hx hb zd_M_worked_33 (by decide) (fun c10_ => absurd c10_ (by decide)) (fun _ => ?_)
        refine lv_iconst (v := (nI 0)) hx hb zd_M_worked_36 (by decide) ?_
        have hP := hP.sub (ws' := [(md, .inr (3, [.int (nI 1), .int (nI n), .ref bw, .ref bf, .ref bv, .ref bz, .int (nI kn), .ref bsp, .ref bdt, .ref bdr, .ref bhd, .ref bmv, .ref bod, .int (nI pl), .int (nI cr), .int (nI tk)])), (bmv, .inl (cI, 16, .inl mv))]) [1, 0] rfl
        have hD := hD.sub (ws' := [(md, .inr (3, [.int (nI 1), .int (nI n), .ref bw, .ref bf, .ref bv, .ref bz, .int (nI kn), .ref bsp, .ref bdt, .ref bdr, .ref bhd, .ref bmv, .ref bod, .int (nI pl), .int (nI cr), .int (nI tk)])), (bmv, .inl (cI, 16, .inl mv))]) [1, 0] (by decide) rfl
        exact z_iret hx hb hr hlocks hP hK hD hS zd_M_worked_37 (by decide) (by decide) ⟨by simp only [zrd]; rw [zkc2_1 hk9]; first | done | rfl, by rw [zkc2_1 hk9]⟩
      · have hno9 := z_big (n := cr) (by omega) (Int32.not_lt.mp c9_)
        refine lv_iconst (v := (nI 1)) hx hb zd_M_worked_25 (by decide) ?_
        refine lv_goto (tgt := 30) hx hb zd_M_worked_26 (by decide) ?_
        refine z_Vi (As := [.int (nI 1), .int (nI 1)]) (rest := []) (wc := [(md, .inr (3, [.int th, .int (nI n), .ref bw, .ref bf, .ref bv, .ref bz, .int (nI kn), .ref bsp, .ref bdt, .ref bdr, .ref bhd, .ref bmv, .ref bod, .int (nI pl), .int (nI cr), .int (nI tk)]))]) (wr := [(bmv, .inl (cI, 16, .inl mv))]) ⟨hx, hb, hml, hown, htz⟩ hK hP hD hS hA (k_Model_fails_1 l dC dI cI cJ cZ md th n bw bf bv bz kn bsp bdt bdr bhd bmv bod pl cr tk (nI 1) s.heap.size) (zcwV 2 htz zq_523 zq_520 zq_522 zp_15 zq_6 (by decide +kernel) ⟨Nat.le_of_ble_eq_true rfl, Nat.le_of_ble_eq_true rfl⟩) 0 3 rfl rfl [0] [1] rfl rfl rfl (by decide) rfl hl.1 rfl (Nat.le_of_ble_eq_true rfl) zd_M_worked_30 ⟨Nat.le_of_ble_eq_true rfl, Nat.le_of_ble_eq_true rfl⟩ (fun r u H locs hw hP hD hS => ?_)
        obtain ⟨rfl, rfl⟩ := hw
        have hP : va_P (dC, dI) zcl [(bmv, .inl (cI, 16, .inl mv)), (md, .inr (3, [.int (nI 1), .int (nI n), .ref bw, .ref bf, .ref bv, .ref bz, .int (nI kn), .ref bsp, .ref bdt, .ref bdr, .ref bhd, .ref bmv, .ref bod, .int (nI pl), .int (nI cr), .int (nI tk)]))] H := hP
        have hD : va_D A [(bmv, .inl (cI, 16, .inl mv)), (md, .inr (3, [.int (nI 1), .int (nI n), .ref bw, .ref bf, .ref bv, .ref bz, .int (nI kn), .ref bsp, .ref bdt, .ref bdr, .ref bhd, .ref bmv, .ref bod, .int (nI pl), .int (nI cr), .int (nI tk)]))] := hD
        refine lv_if_eq (tgt := 38) hx hb zd_M_worked_33 (by decide) (fun c11_ => absurd c11_ (by decide)) (fun _ => ?_)
        refine lv_iconst (v := (nI 0)) hx hb zd_M_worked_36 (by decide) ?_
        have hP := hP.sub (ws' := [(md, .inr (3, [.int (nI 1), .int (nI n), .ref bw, .ref bf, .ref bv, .ref bz, .int (nI kn), .ref bsp, .ref bdt, .ref bdr, .ref bhd, .ref bmv, .ref bod, .int (nI pl), .int (nI cr), .int (nI tk)])), (bmv, .inl (cI, 16, .inl mv))]) [1, 0] rfl
        have hD := hD.sub (ws' := [(md, .inr (3, [.int (nI 1), .int (nI n), .ref bw, .ref bf, .ref bv, .ref bz, .int (nI kn), .ref bsp, .ref bdt, .ref bdr, .ref bhd, .ref bmv, .ref bod, .int (nI pl), .int (nI cr), .int (nI tk)])), (bmv, .inl (cI, 16, .inl mv))]) [1, 0] (by decide) rfl
        exact z_iret hx hb hr hlocks hP hK hD hS zd_M_worked_37 (by decide) (by decide) ⟨by simp only [zrd]; rw [zkc2_1 hk9]; first | done | rfl, by rw [zkc2_1 hk9]⟩
set_option maxHeartbeats 4000000 in
set_option maxRecDepth 100000 in
/--  -/
theorem k_Model_done (l : Launch) (dC : Nat → ClassId) (dI : Nat → Nat → Nat) (cI cJ cZ : ClassId) (md : Nat) (th : Int32) (n : Nat) (bw : Nat) (bf : Nat) (bv : Nat) (bz : Nat) (kn : Nat) (bsp : Nat) (bdt : Nat) (bdr : Nat) (bhd : Nat) (bmv : Nat) (bod : Nat) (pl : Nat) (cr : Nat) (tk : Nat) (od : Nat → Int32) (sh : Int32) (hkn : kn ≤ 1) (hbd : pl ≤ 16) (sz : Nat) : zMi l zy_M_done zw_M_done ({ frames := 1, cells := 0, slots := 0, locals := 22 }) [.ref md, .int sh] (dC, dI) zcl [(cI, .int), (cJ, .long), (cZ, .boolean)] [(md, .inr (3, [.int th, .int (nI n), .ref bw, .ref bf, .ref bv, .ref bz, .int (nI kn), .ref bsp, .ref bdt, .ref bdr, .ref bhd, .ref bmv, .ref bod, .int (nI pl), .int (nI cr), .int (nI tk)])), (bod, .inl (cI, 16, .inl od))] sz (fun (r : Int32) (u : va_W) => r = zrd (zkc2 kn pl sh) od sh ∧ u = [(md, .inr (3, [.int (nI (zkc2 kn pl sh)), .int (nI n), .ref bw, .ref bf, .ref bv, .ref bz, .int (nI kn), .ref bsp, .ref bdt, .ref bdr, .ref bhd, .ref bmv, .ref bod, .int (nI pl), .int (nI cr), .int (nI tk)])), (bod, .inl (cI, 16, .inl od))]) := by
  refine z_ofi (cc := zc_M_done) (maxL := 2) (ret := (some .int)) (by decide) rfl (Nat.le_of_ble_eq_true rfl) ?_
  intro p e s m below meth c A ls hx hb hr hml hown htz hlocks hin hA hP hK hD hS hl
  have hown : s.vm.findClass zR_M = some m.cls := hown
  have hl : lv_has ls 2 [(0, .ref md), (1, .int sh)] := hl
  refine lv_aload_n hx hb zd_M_done_0 rfl (lv_at hl 0 rfl) ?_
  refine lv_aload_n hx hb zd_M_done_1 rfl (lv_at hl 0 rfl) ?_
  refine va_get (D := (dC, dI)) (ci := 3) (v := .int (nI kn)) (C := zR_M) (T := zF_M) (N := 16) hx hb htz zi_M hown hK hP 0 rfl rfl 6 (by decide) (htz _ zq_465) (fun _ h9 => h9) rfl zd_M_done_2 ?_
  refine lv_if_ne (tgt := 12) hx hb zd_M_done_5 (by decide) (fun c1_ => ?_) (fun c1_ => ?_)
  · have hk9 : ¬ kn = 0 := fun h => c1_ (by rw [h]; rfl)
    refine lv_iconst (v := (nI 0)) hx hb zd_M_done_12 (by decide) ?_
    refine lv_iload_n hx hb zd_M_done_13 rfl (lv_at hl 1 rfl) ?_
    refine lv_if_lt (tgt := 25) hx hb zd_M_done_14 (by decide) (fun c2_ => ?_) (fun c2_ => ?_)
    · have hno9 := z_neg (n := pl) (by omega) c2_
      refine lv_iconst (v := (nI 1)) hx hb zd_M_done_25 (by decide) ?_
      refine lv_goto (tgt := 30) hx hb zd_M_done_26 (by decide) ?_
      refine z_Vi (As := [.int (nI 0), .int (nI 1)]) (rest := []) (wc := [(md, .inr (3, [.int th, .int (nI n), .ref bw, .ref bf, .ref bv, .ref bz, .int (nI kn), .ref bsp, .ref bdt, .ref bdr, .ref bhd, .ref bmv, .ref bod, .int (nI pl), .int (nI cr), .int (nI tk)]))]) (wr := [(bod, .inl (cI, 16, .inl od))]) ⟨hx, hb, hml, hown, htz⟩ hK hP hD hS hA (k_Model_fails_2 l dC dI cI cJ cZ md th n bw bf bv bz kn bsp bdt bdr bhd bmv bod pl cr tk s.heap.size) (zcwV 2 htz zq_523 zq_520 zq_522 zp_15 zq_6 (by decide +kernel) ⟨Nat.le_of_ble_eq_true rfl, Nat.le_of_ble_eq_true rfl⟩) 0 3 rfl rfl [0] [1] rfl rfl rfl (by decide) rfl hl.1 rfl (Nat.le_of_ble_eq_true rfl) zd_M_done_30 ⟨Nat.le_of_ble_eq_true rfl, Nat.le_of_ble_eq_true rfl⟩ (fun r u H locs hw hP hD hS => ?_)
      obtain ⟨rfl, rfl⟩ := hw
      have hP : va_P (dC, dI) zcl [(bod, .inl (cI, 16, .inl od)), (md, .inr (3, [.int (nI 2), .int (nI n), .ref bw, .ref bf, .ref bv, .ref bz, .int (nI kn), .ref bsp, .ref bdt, .ref bdr, .ref bhd, .ref bmv, .ref bod, .int (nI pl), .int (nI cr), .int (nI tk)]))] H := hP
      have hD : va_D A [(bod, .inl (cI, 16, .inl od)), (md, .inr (3, [.int (nI 2), .int (nI n), .ref bw, .ref bf, .ref bv, .ref bz, .int (nI kn), .ref bsp, .ref bdt, .ref bdr, .ref bhd, .ref bmv, .ref bod, .int (nI pl), .int (nI cr), .int (nI tk)]))] := hD
      refine lv_if_eq (tgt := 38) hx hb zd_M_done_33 (by decide) (fun c3_ => absurd c3_ (by decide)) (fun _ => ?_)
      refine lv_iconst (v := (nI 0)) hx hb zd_M_done_36 (by decide) ?_
      have hP := hP.sub (ws' := [(md, .inr (3, [.int (nI 2), .int (nI n), .ref bw, .ref bf, .ref bv, .ref bz, .int (nI kn), .ref bsp, .ref bdt, .ref bdr, .ref bhd, .ref bmv, .ref bod, .int (nI pl), .int (nI cr), .int (nI tk)])), (bod, .inl (cI, 16, .inl od))]) [1, 0] rfl
      have hD := hD.sub (ws' := [(md, .inr (3, [.int (nI 2), .int (nI n), .ref bw, .ref bf, .ref bv, .ref bz, .int (nI kn), .ref bsp, .ref bdt, .ref bdr, .ref bhd, .ref bmv, .ref bod, .int (nI pl), .int (nI cr), .int (nI tk)])), (bod, .inl (cI, 16, .inl od))]) [1, 0] (by decide) rfl
      exact z_iret hx hb hr hlocks hP hK hD hS zd_M_done_37 (by decide) (by decide) ⟨by simp only [zrd]; rw [zkc2_2 hk9 (by omega) hno9]; first | done | rfl, by rw [zkc2_2 hk9 (by omega) hno9]⟩
    · have h0_ := c2_
      refine lv_iload_n hx hb zd_M_done_17 rfl (lv_at hl 1 rfl) ?_
      refine lv_aload_n hx hb zd_M_done_18 rfl (lv_at hl 0 rfl) ?_
      refine va_get (D := (dC, dI)) (ci := 3) (v := .int (nI pl)) (C := zR_M) (T := zF_M) (N := 16) hx hb htz zi_M hown hK hP 0 rfl rfl 13 (by decide) (htz _ zq_472) (fun _ h9 => h9) rfl zd_M_done_19 ?_
      refine lv_icmp_lt (tgt := 29) hx hb zd_M_done_22 (by decide) (fun c4_ => ?_) (fun c4_ => ?_)
      · obtain ⟨j9, hj9, ej9⟩ := z_has (n := pl) (by omega) h0_ (fun h => absurd c4_ (z_nlt h))
        refine lv_iconst (v := (nI 0)) hx hb zd_M_done_29 (by decide) ?_
        refine z_Vi (As := [.int (nI 0), .int (nI 0)]) (rest := []) (wc := [(md, .inr (3, [.int th, .int (nI n), .ref bw, .ref bf, .ref bv, .ref bz, .int (nI kn), .ref bsp, .ref bdt, .ref bdr, .ref bhd, .ref bmv, .ref bod, .int (nI pl), .int (nI cr), .int (nI tk)]))]) (wr := [(bod, .inl (cI, 16, .inl od))]) ⟨hx, hb, hml, hown, htz⟩ hK hP hD hS hA (k_Model_fails_0 l dC dI cI cJ cZ md th n bw bf bv bz kn bsp bdt bdr bhd bmv bod pl cr tk s.heap.size) (zcwV 2 htz zq_523 zq_520 zq_522 zp_15 zq_6 (by decide +kernel) ⟨Nat.le_of_ble_eq_true rfl, Nat.le_of_ble_eq_true rfl⟩) 0 3 rfl rfl [0] [1] rfl rfl rfl (by decide) rfl hl.1 rfl (Nat.le_of_ble_eq_true rfl) zd_M_done_30 ⟨Nat.le_of_ble_eq_true rfl, Nat.le_of_ble_eq_true rfl⟩ (fun r u H locs hw hP hD hS => ?_)
        obtain ⟨rfl, rfl⟩ := hw
        have hP : va_P (dC, dI) zcl [(bod, .inl (cI, 16, .inl od)), (md, .inr (3, [.int (nI 0), .int (nI n), .ref bw, .ref bf, .ref bv, .ref bz, .int (nI kn), .ref bsp, .ref bdt, .ref bdr, .ref bhd, .ref bmv, .ref bod, .int (nI pl), .int (nI cr), .int (nI tk)]))] H := hP
        have hD : va_D A [(bod, .inl (cI, 16, .inl od)), (md, .inr (3, [.int (nI 0), .int (nI n), .ref bw, .ref bf, .ref bv, .ref bz, .int (nI kn), .ref bsp, .ref bdt, .ref bdr, .ref bhd, .ref bmv, .ref bod, .int (nI pl), .int (nI cr), .int (nI tk)]))] := hD
        refine lv_if_eq (tgt := 38) hx hb zd_M_done_33 (by decide) (fun _ => ?_) (fun c5_ => absurd (by decide) c5_)
        refine lv_aload_n hx hb zd_M_done_38 rfl (lv_at hl 0 rfl) ?_
        refine va_get (D := (dC, dI)) (ci := 3) (v := .ref bod) (C := zR_M) (T := zF_M) (N := 16) hx hb htz zi_M hown hK hP 1 rfl rfl 12 (by decide) (htz _ zq_471) (fun _ h9 => h9) rfl zd_M_done_39 ?_
        refine lv_iload_n hx hb zd_M_done_42 rfl (lv_at hl 1 rfl) ?_
        refine z_topi (y := nI j9) ej9 ?_
        refine z_iald hx hb hK hP 0 0 rfl rfl (j := j9) (by omega) (by decide) zd_M_done_43 ?_
        have hP := hP.sub (ws' := [(md, .inr (3, [.int (nI 0), .int (nI n), .ref bw, .ref bf, .ref bv, .ref bz, .int (nI kn), .ref bsp, .ref bdt, .ref bdr, .ref bhd, .ref bmv, .ref bod, .int (nI pl), .int (nI cr), .int (nI tk)])), (bod, .inl (cI, 16, .inl od))]) [1, 0] rfl
        have hD := hD.sub (ws' := [(md, .inr (3, [.int (nI 0), .int (nI n), .ref bw, .ref bf, .ref bv, .ref bz, .int (nI kn), .ref bsp, .ref bdt, .ref bdr, .ref bhd, .ref bmv, .ref bod, .int (nI pl), .int (nI cr), .int (nI tk)])), (bod, .inl (cI, 16, .inl od))]) [1, 0] (by decide) rfl
        exact z_iret hx hb hr hlocks hP hK hD hS zd_M_done_44 (by decide) (by decide) ⟨by rw [ej9, zkc2_0 hk9 (by omega) hj9]; simp only [zrd]; rw [nI_clamp (by omega)]; first | done | rfl, by rw [ej9, zkc2_0 hk9 (by omega) hj9]⟩
      · have hno9 := z_big (n := pl) (by omega) (Int32.not_lt.mp c4_)
        refine lv_iconst (v := (nI 1)) hx hb zd_M_done_25 (by decide) ?_
        refine lv_goto (tgt := 30) hx hb zd_M_done_26 (by decide) ?_
        refine z_Vi (As := [.int (nI 0), .int (nI 1)]) (rest := []) (wc := [(md, .inr (3, [.int th, .int (nI n), .ref bw, .ref bf, .ref bv, .ref bz, .int (nI kn), .ref bsp, .ref bdt, .ref bdr, .ref bhd, .ref bmv, .ref bod, .int (nI pl), .int (nI cr), .int (nI tk)]))]) (wr := [(bod, .inl (cI, 16, .inl od))]) ⟨hx, hb, hml, hown, htz⟩ hK hP hD hS hA (k_Model_fails_2 l dC dI cI cJ cZ md th n bw bf bv bz kn bsp bdt bdr bhd bmv bod pl cr tk s.heap.size) (zcwV 2 htz zq_523 zq_520 zq_522 zp_15 zq_6 (by decide +kernel) ⟨Nat.le_of_ble_eq_true rfl, Nat.le_of_ble_eq_true rfl⟩) 0 3 rfl rfl [0] [1] rfl rfl rfl (by decide) rfl hl.1 rfl (Nat.le_of_ble_eq_true rfl) zd_M_done_30 ⟨Nat.le_of_ble_eq_true rfl, Nat.le_of_ble_eq_true rfl⟩ (fun r u H locs hw hP hD hS => ?_)
        obtain ⟨rfl, rfl⟩ := hw
        have hP : va_P (dC, dI) zcl [(bod, .inl (cI, 16, .inl od)), (md, .inr (3, [.int (nI 2), .int (nI n), .ref bw, .ref bf, .ref bv, .ref bz, .int (nI kn), .ref bsp, .ref bdt, .ref bdr, .ref bhd, .ref bmv, .ref bod, .int (nI pl), .int (nI cr), .int (nI tk)]))] H := hP
        have hD : va_D A [(bod, .inl (cI, 16, .inl od)), (md, .inr (3, [.int (nI 2), .int (nI n), .ref bw, .ref bf, .ref bv, .ref bz, .int (nI kn), .ref bsp, .ref bdt, .ref bdr, .ref bhd, .ref bmv, .ref bod, .int (nI pl), .int (nI cr), .int (nI tk)]))] := hD
        refine lv_if_eq (tgt := 38) hx hb zd_M_done_33 (by decide) (fun c6_ => absurd c6_ (by decide)) (fun _ => ?_)
        refine lv_iconst (v := (nI 0)) hx hb zd_M_done_36 (by decide) ?_
        have hP := hP.sub (ws' := [(md, .inr (3, [.int (nI 2), .int (nI n), .ref bw, .ref bf, .ref bv, .ref bz, .int (nI kn), .ref bsp, .ref bdt, .ref bdr, .ref bhd, .ref bmv, .ref bod, .int (nI pl), .int (nI cr), .int (nI tk)])), (bod, .inl (cI, 16, .inl od))]) [1, 0] rfl
        have hD := hD.sub (ws' := [(md, .inr (3, [.int (nI 2), .int (nI n), .ref bw, .ref bf, .ref bv, .ref bz, .int (nI kn), .ref bsp, .ref bdt, .ref bdr, .ref bhd, .ref bmv, .ref bod, .int (nI pl), .int (nI cr), .int (nI tk)])), (bod, .inl (cI, 16, .inl od))]) [1, 0] (by decide) rfl
        exact z_iret hx hb hr hlocks hP hK hD hS zd_M_done_37 (by decide) (by decide) ⟨by simp only [zrd]; rw [zkc2_2 hk9 (by omega) hno9]; first | done | rfl, by rw [zkc2_2 hk9 (by omega) hno9]⟩
  · have hk9 : kn = 0 := (nI_eq (b := 0) (by omega) (by decide)).mp c1_
    refine lv_iconst (v := (nI 1)) hx hb zd_M_done_8 (by decide) ?_
    refine lv_goto (tgt := 13) hx hb zd_M_done_9 (by decide) ?_
    refine lv_iload_n hx hb zd_M_done_13 rfl (lv_at hl 1 rfl) ?_
    refine lv_if_lt (tgt := 25) hx hb zd_M_done_14 (by decide) (fun c7_ => ?_) (fun c7_ => ?_)
    · have hno9 := z_neg (n := pl) (by omega) c7_
      refine lv_iconst (v := (nI 1)) hx hb zd_M_done_25 (by decide) ?_
      refine lv_goto (tgt := 30) hx hb zd_M_done_26 (by decide) ?_
      refine z_Vi (As := [.int (nI 1), .int (nI 1)]) (rest := []) (wc := [(md, .inr (3, [.int th, .int (nI n), .ref bw, .ref bf, .ref bv, .ref bz, .int (nI kn), .ref bsp, .ref bdt, .ref bdr, .ref bhd, .ref bmv, .ref bod, .int (nI pl), .int (nI cr), .int (nI tk)]))]) (wr := [(bod, .inl (cI, 16, .inl od))]) ⟨hx, hb, hml, hown, htz⟩ hK hP hD hS hA (k_Model_fails_1 l dC dI cI cJ cZ md th n bw bf bv bz kn bsp bdt bdr bhd bmv bod pl cr tk (nI 1) s.heap.size) (zcwV 2 htz zq_523 zq_520 zq_522 zp_15 zq_6 (by decide +kernel) ⟨Nat.le_of_ble_eq_true rfl, Nat.le_of_ble_eq_true rfl⟩) 0 3 rfl rfl [0] [1] rfl rfl rfl (by decide) rfl hl.1 rfl (Nat.le_of_ble_eq_true rfl) zd_M_done_30 ⟨Nat.le_of_ble_eq_true rfl, Nat.le_of_ble_eq_true rfl⟩ (fun r u H locs hw hP hD hS => ?_)
      obtain ⟨rfl, rfl⟩ := hw
      have hP : va_P (dC, dI) zcl [(bod, .inl (cI, 16, .inl od)), (md, .inr (3, [.int (nI 1), .int (nI n), .ref bw, .ref bf, .ref bv, .ref bz, .int (nI kn), .ref bsp, .ref bdt, .ref bdr, .ref bhd, .ref bmv, .ref bod, .int (nI pl), .int (nI cr), .int (nI tk)]))] H := hP
      have hD : va_D A [(bod, .inl (cI, 16, .inl od)), (md, .inr (3, [.int (nI 1), .int (nI n), .ref bw, .ref bf, .ref bv, .ref bz, .int (nI kn), .ref bsp, .ref bdt, .ref bdr, .ref bhd, .ref bmv, .ref bod, .int (nI pl), .int (nI cr), .int (nI tk)]))] := hD
      refine lv_if_eq (tgt := 38) hx hb zd_M_done_33 (by decide) (fun c8_ => absurd c8_ (by decide)) (fun _ => ?_)
      refine lv_iconst (v := (nI 0)) hx hb zd_M_done_36 (by decide) ?_
      have hP := hP.sub (ws' := [(md, .inr (3, [.int (nI 1), .int (nI n), .ref bw, .ref bf, .ref bv, .ref bz, .int (nI kn), .ref bsp, .ref bdt, .ref bdr, .ref bhd, .ref bmv, .ref bod, .int (nI pl), .int (nI cr), .int (nI tk)])), (bod, .inl (cI, 16, .inl od))]) [1, 0] rfl
      have hD := hD.sub (ws' := [(md, .inr (3, [.int (nI 1), .int (nI n), .ref bw, .ref bf, .ref bv, .ref bz, .int (nI kn), .ref bsp, .ref bdt, .ref bdr, .ref bhd, .ref bmv, .ref bod, .int (nI pl), .int (nI cr), .int (nI tk)])), (bod, .inl (cI, 16, .inl od))]) [1, 0] (by decide) rfl
      exact z_iret hx hb hr hlocks hP hK hD hS zd_M_done_37 (by decide) (by decide) ⟨by simp only [zrd]; rw [zkc2_1 hk9]; first | done | rfl, by rw [zkc2_1 hk9]⟩
    · have h0_ := c7_
      refine lv_iload_n hx hb zd_M_done_17 rfl (lv_at hl 1 rfl) ?_
      refine lv_aload_n hx hb zd_M_done_18 rfl (lv_at hl 0 rfl) ?_
      refine va_get (D := (dC, dI)) (ci := 3) (v := .int (nI pl)) (C := zR_M) (T := zF_M) (N := 16) hx hb htz zi_M hown hK hP 0 rfl rfl 13 (by decide) (htz _ zq_472) (fun _ h9 => h9) rfl zd_M_done_19 ?_
      refine lv_icmp_lt (tgt := 29) hx hb zd_M_done_22 (by decide) (fun c9_ => ?_) (fun c9_ => ?_)
      · obtain ⟨j9, hj9, ej9⟩ := z_has (n := pl) (by omega) h0_ (fun h => absurd c9_ (z_nlt h))
        refine lv_iconst (v := (nI 0)) hx hb zd_M_done_29 (by decide) ?_
        refine z_Vi (As := [.int (nI 1), .int (nI 0)]) (rest := []) (wc := [(md, .inr (3, [.int th, .int (nI n), .ref bw, .ref bf, .ref bv, .ref bz, .int (nI kn), .ref bsp, .ref bdt, .ref bdr, .ref bhd, .ref bmv, .ref bod, .int (nI pl), .int (nI cr), .int (nI tk)]))]) (wr := [(bod, .inl (cI, 16, .inl od))]) ⟨hx, hb, hml, hown, htz⟩ hK hP hD hS hA (k_Model_fails_1 l dC dI cI cJ cZ md th n bw bf bv bz kn bsp bdt bdr bhd bmv bod pl cr tk (nI 0) s.heap.size) (zcwV 2 htz zq_523 zq_520 zq_522 zp_15 zq_6 (by decide +kernel) ⟨Nat.le_of_ble_eq_true rfl, Nat.le_of_ble_eq_true rfl⟩) 0 3 rfl rfl [0] [1] rfl rfl rfl (by decide) rfl hl.1 rfl (Nat.le_of_ble_eq_true rfl) zd_M_done_30 ⟨Nat.le_of_ble_eq_true rfl, Nat.le_of_ble_eq_true rfl⟩ (fun r u H locs hw hP hD hS => ?_)
        obtain ⟨rfl, rfl⟩ := hw
        have hP : va_P (dC, dI) zcl [(bod, .inl (cI, 16, .inl od)), (md, .inr (3, [.int (nI 1), .int (nI n), .ref bw, .ref bf, .ref bv, .ref bz, .int (nI kn), .ref bsp, .ref bdt, .ref bdr, .ref bhd, .ref bmv, .ref bod, .int (nI pl), .int (nI cr), .int (nI tk)]))] H := hP
        have hD : va_D A [(bod, .inl (cI, 16, .inl od)), (md, .inr (3, [.int (nI 1), .int (nI n), .ref bw, .ref bf, .ref bv, .ref bz, .int (nI kn), .ref bsp, .ref bdt, .ref bdr, .ref bhd, .ref bmv, .ref bod, .int (nI pl), .int (nI cr), .int (nI tk)]))] := hD
        refine lv_if_eq (tgt := 38) hx hb zd_M_done_33 (by decide) (fun c10_ => absurd c10_ (by decide)) (fun _ => ?_)
        refine lv_iconst (v := (nI 0)) hx hb zd_M_done_36 (by decide) ?_
        have hP := hP.sub (ws' := [(md, .inr (3, [.int (nI 1), .int (nI n), .ref bw, .ref bf, .ref bv, .ref bz, .int (nI kn), .ref bsp, .ref bdt, .ref bdr, .ref bhd, .ref bmv, .ref bod, .int (nI pl), .int (nI cr), .int (nI tk)])), (bod, .inl (cI, 16, .inl od))]) [1, 0] rfl
        have hD := hD.sub (ws' := [(md, .inr (3, [.int (nI 1), .int (nI n), .ref bw, .ref bf, .ref bv, .ref bz, .int (nI kn), .ref bsp, .ref bdt, .ref bdr, .ref bhd, .ref bmv, .ref bod, .int (nI pl), .int (nI cr), .int (nI tk)])), (bod, .inl (cI, 16, .inl od))]) [1, 0] (by decide) rfl
        exact z_iret hx hb hr hlocks hP hK hD hS zd_M_done_37 (by decide) (by decide) ⟨by simp only [zrd]; rw [zkc2_1 hk9]; first | done | rfl, by rw [zkc2_1 hk9]⟩
      · have hno9 := z_big (n := pl) (by omega) (Int32.not_lt.mp c9_)
        refine lv_iconst (v := (nI 1)) hx hb zd_M_done_25 (by decide) ?_
        refine lv_goto (tgt := 30) hx hb zd_M_done_26 (by decide) ?_
        refine z_Vi (As := [.int (nI 1), .int (nI 1)]) (rest := []) (wc := [(md, .inr (3, [.int th, .int (nI n), .ref bw, .ref bf, .ref bv, .ref bz, .int (nI kn), .ref bsp, .ref bdt, .ref bdr, .ref bhd, .ref bmv, .ref bod, .int (nI pl), .int (nI cr), .int (nI tk)]))]) (wr := [(bod, .inl (cI, 16, .inl od))]) ⟨hx, hb, hml, hown, htz⟩ hK hP hD hS hA (k_Model_fails_1 l dC dI cI cJ cZ md th n bw bf bv bz kn bsp bdt bdr bhd bmv bod pl cr tk (nI 1) s.heap.size) (zcwV 2 htz zq_523 zq_520 zq_522 zp_15 zq_6 (by decide +kernel) ⟨Nat.le_of_ble_eq_true rfl, Nat.le_of_ble_eq_true rfl⟩) 0 3 rfl rfl [0] [1] rfl rfl rfl (by decide) rfl hl.1 rfl (Nat.le_of_ble_eq_true rfl) zd_M_done_30 ⟨Nat.le_of_ble_eq_true rfl, Nat.le_of_ble_eq_true rfl⟩ (fun r u H locs hw hP hD hS => ?_)
        obtain ⟨rfl, rfl⟩ := hw
        have hP : va_P (dC, dI) zcl [(bod, .inl (cI, 16, .inl od)), (md, .inr (3, [.int (nI 1), .int (nI n), .ref bw, .ref bf, .ref bv, .ref bz, .int (nI kn), .ref bsp, .ref bdt, .ref bdr, .ref bhd, .ref bmv, .ref bod, .int (nI pl), .int (nI cr), .int (nI tk)]))] H := hP
        have hD : va_D A [(bod, .inl (cI, 16, .inl od)), (md, .inr (3, [.int (nI 1), .int (nI n), .ref bw, .ref bf, .ref bv, .ref bz, .int (nI kn), .ref bsp, .ref bdt, .ref bdr, .ref bhd, .ref bmv, .ref bod, .int (nI pl), .int (nI cr), .int (nI tk)]))] := hD
        refine lv_if_eq (tgt := 38) hx hb zd_M_done_33 (by decide) (fun c11_ => absurd c11_ (by decide)) (fun _ => ?_)
        refine lv_iconst (v := (nI 0)) hx hb zd_M_done_36 (by decide) ?_
        have hP := hP.sub (ws' := [(md, .inr (3, [.int (nI 1), .int (nI n), .ref bw, .ref bf, .ref bv, .ref bz, .int (nI kn), .ref bsp, .ref bdt, .ref bdr, .ref bhd, .ref bmv, .ref bod, .int (nI pl), .int (nI cr), .int (nI tk)])), (bod, .inl (cI, 16, .inl od))]) [1, 0] rfl
        have hD := hD.sub (ws' := [(md, .inr (3, [.int (nI 1), .int (nI n), .ref bw, .ref bf, .ref bv, .ref bz, .int (nI kn), .ref bsp, .ref bdt, .ref bdr, .ref bhd, .ref bmv, .ref bod, .int (nI pl), .int (nI cr), .int (nI tk)])), (bod, .inl (cI, 16, .inl od))]) [1, 0] (by decide) rfl
        exact z_iret hx hb hr hlocks hP hK hD hS zd_M_done_37 (by decide) (by decide) ⟨by simp only [zrd]; rw [zkc2_1 hk9]; first | done | rfl, by rw [zkc2_1 hk9]⟩
set_option maxHeartbeats 4000000 in
set_option maxRecDepth 100000 in
/--  -/
theorem k_Model_by (l : Launch) (dC : Nat → ClassId) (dI : Nat → Nat → Nat) (cI cJ cZ : ClassId) (md : Nat) (th : Int32) (n : Nat) (bw : Nat) (bf : Nat) (bv : Nat) (bz : Nat) (kn : Nat) (bsp : Nat) (bdt : Nat) (bdr : Nat) (bhd : Nat) (bmv : Nat) (bod : Nat) (pl : Nat) (cr : Nat) (tk : Nat) (se : Nat → Int32) (dr : Nat → Int32) (sh : Int32) (hn : n ≤ 16) (hkn : kn ≤ 1) (sz : Nat) : zMi l zy_M_by zw_M_by ({ frames := 2, cells := 0, slots := 0, locals := 43 }) [.ref md, .int sh] (dC, dI) zcl [(cI, .int), (cJ, .long), (cZ, .boolean)] [(md, .inr (3, [.int th, .int (nI n), .ref bw, .ref bf, .ref bv, .ref bz, .int (nI kn), .ref bsp, .ref bdt, .ref bdr, .ref bhd, .ref bmv, .ref bod, .int (nI pl), .int (nI cr), .int (nI tk)])), (bz, .inl (cZ, 16, .inl se)), (bdr, .inl (cI, 16, .inl dr))] sz (fun (r : Int32) (u : va_W) => r = zsel (zkc2 kn n sh) (zwin se n) dr (-1) sh ∧ u = [(md, .inr (3, [.int (nI (zkc2 kn n sh)), .int (nI n), .ref bw, .ref bf, .ref bv, .ref bz, .int (nI kn), .ref bsp, .ref bdt, .ref bdr, .ref bhd, .ref bmv, .ref bod, .int (nI pl), .int (nI cr), .int (nI tk)])), (bz, .inl (cZ, 16, .inl se)), (bdr, .inl (cI, 16, .inl dr))]) := by
  refine z_ofi (cc := zc_M_by) (maxL := 2) (ret := (some .int)) (by decide) rfl (Nat.le_of_ble_eq_true rfl) ?_
  intro p e s m below meth c A ls hx hb hr hml hown htz hlocks hin hA hP hK hD hS hl
  have hown : s.vm.findClass zR_M = some m.cls := hown
  have hl : lv_has ls 2 [(0, .ref md), (1, .int sh)] := hl
  refine lv_aload_n hx hb zd_M_by_0 rfl (lv_at hl 0 rfl) ?_
  refine lv_aload_n hx hb zd_M_by_1 rfl (lv_at hl 0 rfl) ?_
  refine va_get (D := (dC, dI)) (ci := 3) (v := .int (nI kn)) (C := zR_M) (T := zF_M) (N := 16) hx hb htz zi_M hown hK hP 0 rfl rfl 6 (by decide) (htz _ zq_465) (fun _ h9 => h9) rfl zd_M_by_2 ?_
  refine lv_if_ne (tgt := 12) hx hb zd_M_by_5 (by decide) (fun c1_ => ?_) (fun c1_ => ?_)
  · have hk9 : ¬ kn = 0 := fun h => c1_ (by rw [h]; rfl)
    refine lv_iconst (v := (nI 0)) hx hb zd_M_by_12 (by decide) ?_
    refine lv_aload_n hx hb zd_M_by_13 rfl (lv_at hl 0 rfl) ?_
    refine lv_iload_n hx hb zd_M_by_14 rfl (lv_at hl 1 rfl) ?_
    refine z_Vi (As := [.int sh]) (rest := [.int (nI 0), .ref md]) (wc := [(md, .inr (3, [.int th, .int (nI n), .ref bw, .ref bf, .ref bv, .ref bz, .int (nI kn), .ref bsp, .ref bdt, .ref bdr, .ref bhd, .ref bmv, .ref bod, .int (nI pl), .int (nI cr), .int (nI tk)]))]) (wr := [(bz, .inl (cZ, 16, .inl se)), (bdr, .inl (cI, 16, .inl dr))]) ⟨hx, hb, hml, hown, htz⟩ hK hP hD hS hA (k_Model_isShare l dC dI cI cJ cZ md th n bw bf bv bz kn bsp bdt bdr bhd bmv bod pl cr tk sh (by first | assumption | omega) s.heap.size) (zcwV 1 htz zq_519 zq_516 zq_518 zp_14 zq_6 (by decide +kernel) ⟨Nat.le_of_ble_eq_true rfl, Nat.le_of_ble_eq_true rfl⟩) 0 3 rfl rfl [0] [1, 2] rfl rfl rfl (by decide) rfl hl.1 rfl (Nat.le_of_ble_eq_true rfl) zd_M_by_15 ⟨Nat.le_of_ble_eq_true rfl, Nat.le_of_ble_eq_true rfl⟩ (fun r u H locs hw hP hD hS => ?_)
    rcases hw with ⟨j2_, rfl, rfl, hj3_, rfl⟩ | ⟨rfl, rfl, hno4_⟩
    · have hP : va_P (dC, dI) zcl [(bz, .inl (cZ, 16, .inl se)), (bdr, .inl (cI, 16, .inl dr)), (md, .inr (3, [.int th, .int (nI n), .ref bw, .ref bf, .ref bv, .ref bz, .int (nI kn), .ref bsp, .ref bdt, .ref bdr, .ref bhd, .ref bmv, .ref bod, .int (nI pl), .int (nI cr), .int (nI tk)]))] H := hP
      have hD : va_D A [(bz, .inl (cZ, 16, .inl se)), (bdr, .inl (cI, 16, .inl dr)), (md, .inr (3, [.int th, .int (nI n), .ref bw, .ref bf, .ref bv, .ref bz, .int (nI kn), .ref bsp, .ref bdt, .ref bdr, .ref bhd, .ref bmv, .ref bod, .int (nI pl), .int (nI cr), .int (nI tk)]))] := hD
      refine lv_if_ne (tgt := 25) hx hb zd_M_by_18 (by decide) (fun _ => ?_) (fun c5_ => absurd c5_ (by decide))
      refine lv_iconst (v := (nI 0)) hx hb zd_M_by_25 (by decide) ?_
      refine z_Vi (As := [.int (nI 0), .int (nI 0)]) (rest := []) (wc := [(md, .inr (3, [.int th, .int (nI n), .ref bw, .ref bf, .ref bv, .ref bz, .int (nI kn), .ref bsp, .ref bdt, .ref bdr, .ref bhd, .ref bmv, .ref bod, .int (nI pl), .int (nI cr), .int (nI tk)]))]) (wr := [(bz, .inl (cZ, 16, .inl se)), (bdr, .inl (cI, 16, .inl dr))]) ⟨hx, hb, hml, hown, htz⟩ hK hP hD hS hA (k_Model_fails_0 l dC dI cI cJ cZ md th n bw bf bv bz kn bsp bdt bdr bhd bmv bod pl cr tk H.size) (zcwV 2 htz zq_523 zq_520 zq_522 zp_15 zq_6 (by decide +kernel) ⟨Nat.le_of_ble_eq_true rfl, Nat.le_of_ble_eq_true rfl⟩) 2 3 rfl rfl [2] [0, 1] rfl rfl rfl (by decide) rfl hl.1 rfl (Nat.le_of_ble_eq_true rfl) zd_M_by_26 ⟨Nat.le_of_ble_eq_true rfl, Nat.le_of_ble_eq_true rfl⟩ (fun r u H locs hw hP hD hS => ?_)
      obtain ⟨rfl, rfl⟩ := hw
      have hP : va_P (dC, dI) zcl [(bz, .inl (cZ, 16, .inl se)), (bdr, .inl (cI, 16, .inl dr)), (md, .inr (3, [.int (nI 0), .int (nI n), .ref bw, .ref bf, .ref bv, .ref bz, .int (nI kn), .ref bsp, .ref bdt, .ref bdr, .ref bhd, .ref bmv, .ref bod, .int (nI pl), .int (nI cr), .int (nI tk)]))] H := hP
      have hD : va_D A [(bz, .inl (cZ, 16, .inl se)), (bdr, .inl (cI, 16, .inl dr)), (md, .inr (3, [.int (nI 0), .int (nI n), .ref bw, .ref bf, .ref bv, .ref bz, .int (nI kn), .ref bsp, .ref bdt, .ref bdr, .ref bhd, .ref bmv, .ref bod, .int (nI pl), .int (nI cr), .int (nI tk)]))] := hD
      refine lv_if_eq (tgt := 34) hx hb zd_M_by_29 (by decide) (fun _ => ?_) (fun c6_ => absurd (by decide) c6_)
      refine lv_aload_n hx hb zd_M_by_34 rfl (lv_at hl 0 rfl) ?_
      refine lv_iload_n hx hb zd_M_by_35 rfl (lv_at hl 1 rfl) ?_
      refine z_Vi (As := [.int (nI j2_)]) (rest := []) (wc := [(md, .inr (3, [.int (nI 0), .int (nI n), .ref bw, .ref bf, .ref bv, .ref bz, .int (nI kn), .ref bsp, .ref bdt, .ref bdr, .ref bhd, .ref bmv, .ref bod, .int (nI pl), .int (nI cr), .int (nI tk)])), (bz, .inl (cZ, 16, .inl se))]) (wr := [(bdr, .inl (cI, 16, .inl dr))]) ⟨hx, hb, hml, hown, htz⟩ hK hP hD hS hA (k_Model_counts_k l dC dI cI cJ cZ md (nI 0) n bw bf bv bz kn bsp bdt bdr bhd bmv bod pl cr tk se j2_ (by first | assumption | omega) (by first | assumption | omega) H.size) (zcwV 1 htz zq_573 zq_570 zq_572 zp_23 zq_6 (by decide +kernel) ⟨Nat.le_of_ble_eq_true rfl, Nat.le_of_ble_eq_true rfl⟩) 2 3 rfl rfl [2, 0] [1] rfl rfl rfl (by decide) rfl hl.1 rfl (Nat.le_of_ble_eq_true rfl) zd_M_by_36 ⟨Nat.le_of_ble_eq_true rfl, Nat.le_of_ble_eq_true rfl⟩ (fun r u H locs hw hP hD hS => ?_)
      rcases hw with ⟨rfl, rfl, hb7_⟩ | ⟨rfl, rfl, hb8_⟩
      · have hP : va_P (dC, dI) zcl [(bdr, .inl (cI, 16, .inl dr)), (md, .inr (3, [.int (nI 0), .int (nI n), .ref bw, .ref bf, .ref bv, .ref bz, .int (nI kn), .ref bsp, .ref bdt, .ref bdr, .ref bhd, .ref bmv, .ref bod, .int (nI pl), .int (nI cr), .int (nI tk)])), (bz, .inl (cZ, 16, .inl se))] H := hP
        have hD : va_D A [(bdr, .inl (cI, 16, .inl dr)), (md, .inr (3, [.int (nI 0), .int (nI n), .ref bw, .ref bf, .ref bv, .ref bz, .int (nI kn), .ref bsp, .ref bdt, .ref bdr, .ref bhd, .ref bmv, .ref bod, .int (nI pl), .int (nI cr), .int (nI tk)])), (bz, .inl (cZ, 16, .inl se))] := hD
        have hct := hb7_
        refine lv_if_eq (tgt := 51) hx hb zd_M_by_39 (by decide) (fun c9_ => absurd c9_ (by decide)) (fun _ => ?_)
        refine lv_aload_n hx hb zd_M_by_42 rfl (lv_at hl 0 rfl) ?_
        refine va_get (D := (dC, dI)) (ci := 3) (v := .ref bdr) (C := zR_M) (T := zF_M) (N := 16) hx hb htz zi_M hown hK hP 1 rfl rfl 9 (by decide) (htz _ zq_468) (fun _ h9 => h9) rfl zd_M_by_43 ?_
        refine lv_iload_n hx hb zd_M_by_46 rfl (lv_at hl 1 rfl) ?_
        refine z_iald hx hb hK hP 0 0 rfl rfl (j := j2_) (by omega) (by decide) zd_M_by_47 ?_
        refine lv_goto (tgt := 52) hx hb zd_M_by_48 (by decide) ?_
        have hP := hP.sub (ws' := [(md, .inr (3, [.int (nI 0), .int (nI n), .ref bw, .ref bf, .ref bv, .ref bz, .int (nI kn), .ref bsp, .ref bdt, .ref bdr, .ref bhd, .ref bmv, .ref bod, .int (nI pl), .int (nI cr), .int (nI tk)])), (bz, .inl (cZ, 16, .inl se)), (bdr, .inl (cI, 16, .inl dr))]) [1, 2, 0] rfl
        have hD := hD.sub (ws' := [(md, .inr (3, [.int (nI 0), .int (nI n), .ref bw, .ref bf, .ref bv, .ref bz, .int (nI kn), .ref bsp, .ref bdt, .ref bdr, .ref bhd, .ref bmv, .ref bod, .int (nI pl), .int (nI cr), .int (nI tk)])), (bz, .inl (cZ, 16, .inl se)), (bdr, .inl (cI, 16, .inl dr))]) [1, 2, 0] (by decide) rfl
        exact z_iret hx hb hr hlocks hP hK hD hS zd_M_by_52 (by decide) (by decide) ⟨by rw [zkc2_0 hk9 (by omega) hj3_]; simp only [zsel]; rw [nI_clamp (by omega), if_pos hct]; first | done | rfl, by rw [zkc2_0 hk9 (by omega) hj3_]⟩
      · have hP : va_P (dC, dI) zcl [(bdr, .inl (cI, 16, .inl dr)), (md, .inr (3, [.int (nI 0), .int (nI n), .ref bw, .ref bf, .ref bv, .ref bz, .int (nI kn), .ref bsp, .ref bdt, .ref bdr, .ref bhd, .ref bmv, .ref bod, .int (nI pl), .int (nI cr), .int (nI tk)])), (bz, .inl (cZ, 16, .inl se))] H := hP
        have hD : va_D A [(bdr, .inl (cI, 16, .inl dr)), (md, .inr (3, [.int (nI 0), .int (nI n), .ref bw, .ref bf, .ref bv, .ref bz, .int (nI kn), .ref bsp, .ref bdt, .ref bdr, .ref bhd, .ref bmv, .ref bod, .int (nI pl), .int (nI cr), .int (nI tk)])), (bz, .inl (cZ, 16, .inl se))] := hD
        have hct := hb8_
        refine lv_if_eq (tgt := 51) hx hb zd_M_by_39 (by decide) (fun _ => ?_) (fun c10_ => absurd (by decide) c10_)
        refine lv_iconst (v := (-1)) hx hb zd_M_by_51 (by decide) ?_
        have hP := hP.sub (ws' := [(md, .inr (3, [.int (nI 0), .int (nI n), .ref bw, .ref bf, .ref bv, .ref bz, .int (nI kn), .ref bsp, .ref bdt, .ref bdr, .ref bhd, .ref bmv, .ref bod, .int (nI pl), .int (nI cr), .int (nI tk)])), (bz, .inl (cZ, 16, .inl se)), (bdr, .inl (cI, 16, .inl dr))]) [1, 2, 0] rfl
        have hD := hD.sub (ws' := [(md, .inr (3, [.int (nI 0), .int (nI n), .ref bw, .ref bf, .ref bv, .ref bz, .int (nI kn), .ref bsp, .ref bdt, .ref bdr, .ref bhd, .ref bmv, .ref bod, .int (nI pl), .int (nI cr), .int (nI tk)])), (bz, .inl (cZ, 16, .inl se)), (bdr, .inl (cI, 16, .inl dr))]) [1, 2, 0] (by decide) rfl
        exact z_iret hx hb hr hlocks hP hK hD hS zd_M_by_52 (by decide) (by decide) ⟨by rw [zkc2_0 hk9 (by omega) hj3_]; simp only [zsel]; rw [nI_clamp (by omega), if_neg (Nat.not_le.mpr hct)]; first | done | rfl, by rw [zkc2_0 hk9 (by omega) hj3_]⟩
    · have hP : va_P (dC, dI) zcl [(bz, .inl (cZ, 16, .inl se)), (bdr, .inl (cI, 16, .inl dr)), (md, .inr (3, [.int th, .int (nI n), .ref bw, .ref bf, .ref bv, .ref bz, .int (nI kn), .ref bsp, .ref bdt, .ref bdr, .ref bhd, .ref bmv, .ref bod, .int (nI pl), .int (nI cr), .int (nI tk)]))] H := hP
      have hD : va_D A [(bz, .inl (cZ, 16, .inl se)), (bdr, .inl (cI, 16, .inl dr)), (md, .inr (3, [.int th, .int (nI n), .ref bw, .ref bf, .ref bv, .ref bz, .int (nI kn), .ref bsp, .ref bdt, .ref bdr, .ref bhd, .ref bmv, .ref bod, .int (nI pl), .int (nI cr), .int (nI tk)]))] := hD
      have hno9 := hno4_
      refine lv_if_ne (tgt := 25) hx hb zd_M_by_18 (by decide) (fun c11_ => absurd (by decide) c11_) (fun _ => ?_)
      refine lv_iconst (v := (nI 1)) hx hb zd_M_by_21 (by decide) ?_
      refine lv_goto (tgt := 26) hx hb zd_M_by_22 (by decide) ?_
      refine z_Vi (As := [.int (nI 0), .int (nI 1)]) (rest := []) (wc := [(md, .inr (3, [.int th, .int (nI n), .ref bw, .ref bf, .ref bv, .ref bz, .int (nI kn), .ref bsp, .ref bdt, .ref bdr, .ref bhd, .ref bmv, .ref bod, .int (nI pl), .int (nI cr), .int (nI tk)]))]) (wr := [(bz, .inl (cZ, 16, .inl se)), (bdr, .inl (cI, 16, .inl dr))]) ⟨hx, hb, hml, hown, htz⟩ hK hP hD hS hA (k_Model_fails_2 l dC dI cI cJ cZ md th n bw bf bv bz kn bsp bdt bdr bhd bmv bod pl cr tk H.size) (zcwV 2 htz zq_523 zq_520 zq_522 zp_15 zq_6 (by decide +kernel) ⟨Nat.le_of_ble_eq_true rfl, Nat.le_of_ble_eq_true rfl⟩) 2 3 rfl rfl [2] [0, 1] rfl rfl rfl (by decide) rfl hl.1 rfl (Nat.le_of_ble_eq_true rfl) zd_M_by_26 ⟨Nat.le_of_ble_eq_true rfl, Nat.le_of_ble_eq_true rfl⟩ (fun r u H locs hw hP hD hS => ?_)
      obtain ⟨rfl, rfl⟩ := hw
      have hP : va_P (dC, dI) zcl [(bz, .inl (cZ, 16, .inl se)), (bdr, .inl (cI, 16, .inl dr)), (md, .inr (3, [.int (nI 2), .int (nI n), .ref bw, .ref bf, .ref bv, .ref bz, .int (nI kn), .ref bsp, .ref bdt, .ref bdr, .ref bhd, .ref bmv, .ref bod, .int (nI pl), .int (nI cr), .int (nI tk)]))] H := hP
      have hD : va_D A [(bz, .inl (cZ, 16, .inl se)), (bdr, .inl (cI, 16, .inl dr)), (md, .inr (3, [.int (nI 2), .int (nI n), .ref bw, .ref bf, .ref bv, .ref bz, .int (nI kn), .ref bsp, .ref bdt, .ref bdr, .ref bhd, .ref bmv, .ref bod, .int (nI pl), .int (nI cr), .int (nI tk)]))] := hD
      refine lv_if_eq (tgt := 34) hx hb zd_M_by_29 (by decide) (fun c12_ => absurd c12_ (by decide)) (fun _ => ?_)
      refine lv_iconst (v := (nI 0)) hx hb zd_M_by_32 (by decide) ?_
      have hP := hP.sub (ws' := [(md, .inr (3, [.int (nI 2), .int (nI n), .ref bw, .ref bf, .ref bv, .ref bz, .int (nI kn), .ref bsp, .ref bdt, .ref bdr, .ref bhd, .ref bmv, .ref bod, .int (nI pl), .int (nI cr), .int (nI tk)])), (bz, .inl (cZ, 16, .inl se)), (bdr, .inl (cI, 16, .inl dr))]) [2, 0, 1] rfl
      have hD := hD.sub (ws' := [(md, .inr (3, [.int (nI 2), .int (nI n), .ref bw, .ref bf, .ref bv, .ref bz, .int (nI kn), .ref bsp, .ref bdt, .ref bdr, .ref bhd, .ref bmv, .ref bod, .int (nI pl), .int (nI cr), .int (nI tk)])), (bz, .inl (cZ, 16, .inl se)), (bdr, .inl (cI, 16, .inl dr))]) [2, 0, 1] (by decide) rfl
      exact z_iret hx hb hr hlocks hP hK hD hS zd_M_by_33 (by decide) (by decide) ⟨by simp only [zsel]; rw [zkc2_2 hk9 (by omega) hno9]; first | done | rfl, by rw [zkc2_2 hk9 (by omega) hno9]⟩
  · have hk9 : kn = 0 := (nI_eq (b := 0) (by omega) (by decide)).mp c1_
    refine lv_iconst (v := (nI 1)) hx hb zd_M_by_8 (by decide) ?_
    refine lv_goto (tgt := 13) hx hb zd_M_by_9 (by decide) ?_
    refine lv_aload_n hx hb zd_M_by_13 rfl (lv_at hl 0 rfl) ?_
    refine lv_iload_n hx hb zd_M_by_14 rfl (lv_at hl 1 rfl) ?_
    refine z_Vi (As := [.int sh]) (rest := [.int (nI 1), .ref md]) (wc := [(md, .inr (3, [.int th, .int (nI n), .ref bw, .ref bf, .ref bv, .ref bz, .int (nI kn), .ref bsp, .ref bdt, .ref bdr, .ref bhd, .ref bmv, .ref bod, .int (nI pl), .int (nI cr), .int (nI tk)]))]) (wr := [(bz, .inl (cZ, 16, .inl se)), (bdr, .inl (cI, 16, .inl dr))]) ⟨hx, hb, hml, hown, htz⟩ hK hP hD hS hA (k_Model_isShare l dC dI cI cJ cZ md th n bw bf bv bz kn bsp bdt bdr bhd bmv bod pl cr tk sh (by first | assumption | omega) s.heap.size) (zcwV 1 htz zq_519 zq_516 zq_518 zp_14 zq_6 (by decide +kernel) ⟨Nat.le_of_ble_eq_true rfl, Nat.le_of_ble_eq_true rfl⟩) 0 3 rfl rfl [0] [1, 2] rfl rfl rfl (by decide) rfl hl.1 rfl (Nat.le_of_ble_eq_true rfl) zd_M_by_15 ⟨Nat.le_of_ble_eq_true rfl, Nat.le_of_ble_eq_true rfl⟩ (fun r u H locs hw hP hD hS => ?_)
    rcases hw with ⟨j13_, rfl, rfl, hj14_, rfl⟩ | ⟨rfl, rfl, hno15_⟩
    · have hP : va_P (dC, dI) zcl [(bz, .inl (cZ, 16, .inl se)), (bdr, .inl (cI, 16, .inl dr)), (md, .inr (3, [.int th, .int (nI n), .ref bw, .ref bf, .ref bv, .ref bz, .int (nI kn), .ref bsp, .ref bdt, .ref bdr, .ref bhd, .ref bmv, .ref bod, .int (nI pl), .int (nI cr), .int (nI tk)]))] H := hP
      have hD : va_D A [(bz, .inl (cZ, 16, .inl se)), (bdr, .inl (cI, 16, .inl dr)), (md, .inr (3, [.int th, .int (nI n), .ref bw, .ref bf, .ref bv, .ref bz, .int (nI kn), .ref bsp, .ref bdt, .ref bdr, .ref bhd, .ref bmv, .ref bod, .int (nI pl), .int (nI cr), .int (nI tk)]))] := hD
      refine lv_if_ne (tgt := 25) hx hb zd_M_by_18 (by decide) (fun _ => ?_) (fun c16_ => absurd c16_ (by decide))
      refine lv_iconst (v := (nI 0)) hx hb zd_M_by_25 (by decide) ?_
      refine z_Vi (As := [.int (nI 1), .int (nI 0)]) (rest := []) (wc := [(md, .inr (3, [.int th, .int (nI n), .ref bw, .ref bf, .ref bv, .ref bz, .int (nI kn), .ref bsp, .ref bdt, .ref bdr, .ref bhd, .ref bmv, .ref bod, .int (nI pl), .int (nI cr), .int (nI tk)]))]) (wr := [(bz, .inl (cZ, 16, .inl se)), (bdr, .inl (cI, 16, .inl dr))]) ⟨hx, hb, hml, hown, htz⟩ hK hP hD hS hA (k_Model_fails_1 l dC dI cI cJ cZ md th n bw bf bv bz kn bsp bdt bdr bhd bmv bod pl cr tk (nI 0) H.size) (zcwV 2 htz zq_523 zq_520 zq_522 zp_15 zq_6 (by decide +kernel) ⟨Nat.le_of_ble_eq_true rfl, Nat.le_of_ble_eq_true rfl⟩) 2 3 rfl rfl [2] [0, 1] rfl rfl rfl (by decide) rfl hl.1 rfl (Nat.le_of_ble_eq_true rfl) zd_M_by_26 ⟨Nat.le_of_ble_eq_true rfl, Nat.le_of_ble_eq_true rfl⟩ (fun r u H locs hw hP hD hS => ?_)
      obtain ⟨rfl, rfl⟩ := hw
      have hP : va_P (dC, dI) zcl [(bz, .inl (cZ, 16, .inl se)), (bdr, .inl (cI, 16, .inl dr)), (md, .inr (3, [.int (nI 1), .int (nI n), .ref bw, .ref bf, .ref bv, .ref bz, .int (nI kn), .ref bsp, .ref bdt, .ref bdr, .ref bhd, .ref bmv, .ref bod, .int (nI pl), .int (nI cr), .int (nI tk)]))] H := hP
      have hD : va_D A [(bz, .inl (cZ, 16, .inl se)), (bdr, .inl (cI, 16, .inl dr)), (md, .inr (3, [.int (nI 1), .int (nI n), .ref bw, .ref bf, .ref bv, .ref bz, .int (nI kn), .ref bsp, .ref bdt, .ref bdr, .ref bhd, .ref bmv, .ref bod, .int (nI pl), .int (nI cr), .int (nI tk)]))] := hD
      refine lv_if_eq (tgt := 34) hx hb zd_M_by_29 (by decide) (fun c17_ => absurd c17_ (by decide)) (fun _ => ?_)
      refine lv_iconst (v := (nI 0)) hx hb zd_M_by_32 (by decide) ?_
      have hP := hP.sub (ws' := [(md, .inr (3, [.int (nI 1), .int (nI n), .ref bw, .ref bf, .ref bv, .ref bz, .int (nI kn), .ref bsp, .ref bdt, .ref bdr, .ref bhd, .ref bmv, .ref bod, .int (nI pl), .int (nI cr), .int (nI tk)])), (bz, .inl (cZ, 16, .inl se)), (bdr, .inl (cI, 16, .inl dr))]) [2, 0, 1] rfl
      have hD := hD.sub (ws' := [(md, .inr (3, [.int (nI 1), .int (nI n), .ref bw, .ref bf, .ref bv, .ref bz, .int (nI kn), .ref bsp, .ref bdt, .ref bdr, .ref bhd, .ref bmv, .ref bod, .int (nI pl), .int (nI cr), .int (nI tk)])), (bz, .inl (cZ, 16, .inl se)), (bdr, .inl (cI, 16, .inl dr))]) [2, 0, 1] (by decide) rfl
      exact z_iret hx hb hr hlocks hP hK hD hS zd_M_by_33 (by decide) (by decide) ⟨by simp only [zsel]; rw [zkc2_1 hk9]; first | done | rfl, by rw [zkc2_1 hk9]⟩
    · have hP : va_P (dC, dI) zcl [(bz, .inl (cZ, 16, .inl se)), (bdr, .inl (cI, 16, .inl dr)), (md, .inr (3, [.int th, .int (nI n), .ref bw, .ref bf, .ref bv, .ref bz, .int (nI kn), .ref bsp, .ref bdt, .ref bdr, .ref bhd, .ref bmv, .ref bod, .int (nI pl), .int (nI cr), .int (nI tk)]))] H := hP
      have hD : va_D A [(bz, .inl (cZ, 16, .inl se)), (bdr, .inl (cI, 16, .inl dr)), (md, .inr (3, [.int th, .int (nI n), .ref bw, .ref bf, .ref bv, .ref bz, .int (nI kn), .ref bsp, .ref bdt, .ref bdr, .ref bhd, .ref bmv, .ref bod, .int (nI pl), .int (nI cr), .int (nI tk)]))] := hD
      have hno9 := hno15_
      refine lv_if_ne (tgt := 25) hx hb zd_M_by_18 (by decide) (fun c18_ => absurd (by decide) c18_) (fun _ => ?_)
      refine lv_iconst (v := (nI 1)) hx hb zd_M_by_21 (by decide) ?_
      refine lv_goto (tgt := 26) hx hb zd_M_by_22 (by decide) ?_
      refine z_Vi (As := [.int (nI 1), .int (nI 1)]) (rest := []) (wc := [(md, .inr (3, [.int th, .int (nI n), .ref bw, .ref bf, .ref bv, .ref bz, .int (nI kn), .ref bsp, .ref bdt, .ref bdr, .ref bhd, .ref bmv, .ref bod, .int (nI pl), .int (nI cr), .int (nI tk)]))]) (wr := [(bz, .inl (cZ, 16, .inl se)), (bdr, .inl (cI, 16, .inl dr))]) ⟨hx, hb, hml, hown, htz⟩ hK hP hD hS hA (k_Model_fails_1 l dC dI cI cJ cZ md th n bw bf bv bz kn bsp bdt bdr bhd bmv bod pl cr tk (nI 1) H.size) (zcwV 2 htz zq_523 zq_520 zq_522 zp_15 zq_6 (by decide +kernel) ⟨Nat.le_of_ble_eq_true rfl, Nat.le_of_ble_eq_true rfl⟩) 2 3 rfl rfl [2] [0, 1] rfl rfl rfl (by decide) rfl hl.1 rfl (Nat.le_of_ble_eq_true rfl) zd_M_by_26 ⟨Nat.le_of_ble_eq_true rfl, Nat.le_of_ble_eq_true rfl⟩ (fun r u H locs hw hP hD hS => ?_)
      obtain ⟨rfl, rfl⟩ := hw
      have hP : va_P (dC, dI) zcl [(bz, .inl (cZ, 16, .inl se)), (bdr, .inl (cI, 16, .inl dr)), (md, .inr (3, [.int (nI 1), .int (nI n), .ref bw, .ref bf, .ref bv, .ref bz, .int (nI kn), .ref bsp, .ref bdt, .ref bdr, .ref bhd, .ref bmv, .ref bod, .int (nI pl), .int (nI cr), .int (nI tk)]))] H := hP
      have hD : va_D A [(bz, .inl (cZ, 16, .inl se)), (bdr, .inl (cI, 16, .inl dr)), (md, .inr (3, [.int (nI 1), .int (nI n), .ref bw, .ref bf, .ref bv, .ref bz, .int (nI kn), .ref bsp, .ref bdt, .ref bdr, .ref bhd, .ref bmv, .ref bod, .int (nI pl), .int (nI cr), .int (nI tk)]))] := hD
      refine lv_if_eq (tgt := 34) hx hb zd_M_by_29 (by decide) (fun c19_ => absurd c19_ (by decide)) (fun _ => ?_)
      refine lv_iconst (v := (nI 0)) hx hb zd_M_by_32 (by decide) ?_
      have hP := hP.sub (ws' := [(md, .inr (3, [.int (nI 1), .int (nI n), .ref bw, .ref bf, .ref bv, .ref bz, .int (nI kn), .ref bsp, .ref bdt, .ref bdr, .ref bhd, .ref bmv, .ref bod, .int (nI pl), .int (nI cr), .int (nI tk)])), (bz, .inl (cZ, 16, .inl se)), (bdr, .inl (cI, 16, .inl dr))]) [2, 0, 1] rfl
      have hD := hD.sub (ws' := [(md, .inr (3, [.int (nI 1), .int (nI n), .ref bw, .ref bf, .ref bv, .ref bz, .int (nI kn), .ref bsp, .ref bdt, .ref bdr, .ref bhd, .ref bmv, .ref bod, .int (nI pl), .int (nI cr), .int (nI tk)])), (bz, .inl (cZ, 16, .inl se)), (bdr, .inl (cI, 16, .inl dr))]) [2, 0, 1] (by decide) rfl
      exact z_iret hx hb hr hlocks hP hK hD hS zd_M_by_33 (by decide) (by decide) ⟨by simp only [zsel]; rw [zkc2_1 hk9]; first | done | rfl, by rw [zkc2_1 hk9]⟩
set_option maxHeartbeats 4000000 in
set_option maxRecDepth 100000 in
/--  -/
theorem k_Model_at (l : Launch) (dC : Nat → ClassId) (dI : Nat → Nat → Nat) (cI cJ cZ : ClassId) (md : Nat) (th : Int32) (n : Nat) (bw : Nat) (bf : Nat) (bv : Nat) (bz : Nat) (kn : Nat) (bsp : Nat) (bdt : Nat) (bdr : Nat) (bhd : Nat) (bmv : Nat) (bod : Nat) (pl : Nat) (cr : Nat) (tk : Nat) (se : Nat → Int32) (dt : Nat → Int32) (sh : Int32) (hn : n ≤ 16) (hkn : kn ≤ 1) (sz : Nat) : zMi l zy_M_at zw_M_at ({ frames := 2, cells := 0, slots := 0, locals := 43 }) [.ref md, .int sh] (dC, dI) zcl [(cI, .int), (cJ, .long), (cZ, .boolean)] [(md, .inr (3, [.int th, .int (nI n), .ref bw, .ref bf, .ref bv, .ref bz, .int (nI kn), .ref bsp, .ref bdt, .ref bdr, .ref bhd, .ref bmv, .ref bod, .int (nI pl), .int (nI cr), .int (nI tk)])), (bz, .inl (cZ, 16, .inl se)), (bdt, .inl (cI, 16, .inl dt))] sz (fun (r : Int32) (u : va_W) => r = zsel (zkc2 kn n sh) (zwin se n) dt 0 sh ∧ u = [(md, .inr (3, [.int (nI (zkc2 kn n sh)), .int (nI n), .ref bw, .ref bf, .ref bv, .ref bz, .int (nI kn), .ref bsp, .ref bdt, .ref bdr, .ref bhd, .ref bmv, .ref bod, .int (nI pl), .int (nI cr), .int (nI tk)])), (bz, .inl (cZ, 16, .inl se)), (bdt, .inl (cI, 16, .inl dt))]) := by
  refine z_ofi (cc := zc_M_at) (maxL := 2) (ret := (some .int)) (by decide) rfl (Nat.le_of_ble_eq_true rfl) ?_
  intro p e s m below meth c A ls hx hb hr hml hown htz hlocks hin hA hP hK hD hS hl
  have hown : s.vm.findClass zR_M = some m.cls := hown
  have hl : lv_has ls 2 [(0, .ref md), (1, .int sh)] := hl
  refine lv_aload_n hx hb zd_M_at_0 rfl (lv_at hl 0 rfl) ?_
  refine lv_aload_n hx hb zd_M_at_1 rfl (lv_at hl 0 rfl) ?_
  refine va_get (D := (dC, dI)) (ci := 3) (v := .int (nI kn)) (C := zR_M) (T := zF_M) (N := 16) hx hb htz zi_M hown hK hP 0 rfl rfl 6 (by decide) (htz _ zq_465) (fun _ h9 => h9) rfl zd_M_at_2 ?_
  refine lv_if_ne (tgt := 12) hx hb zd_M_at_5 (by decide) (fun c1_ => ?_) (fun c1_ => ?_)
  · have hk9 : ¬ kn = 0 := fun h => c1_ (by rw [h]; rfl)
    refine lv_iconst (v := (nI 0)) hx hb zd_M_at_12 (by decide) ?_
    refine lv_aload_n hx hb zd_M_at_13 rfl (lv_at hl 0 rfl) ?_
    refine lv_iload_n hx hb zd_M_at_14 rfl (lv_at hl 1 rfl) ?_
    refine z_Vi (As := [.int sh]) (rest := [.int (nI 0), .ref md]) (wc := [(md, .inr (3, [.int th, .int (nI n), .ref bw, .ref bf, .ref bv, .ref bz, .int (nI kn), .ref bsp, .ref bdt, .ref bdr, .ref bhd, .ref bmv, .ref bod, .int (nI pl), .int (nI cr), .int (nI tk)]))]) (wr := [(bz, .inl (cZ, 16, .inl se)), (bdt, .inl (cI, 16, .inl dt))]) ⟨hx, hb, hml, hown, htz⟩ hK hP hD hS hA (k_Model_isShare l dC dI cI cJ cZ md th n bw bf bv bz kn bsp bdt bdr bhd bmv bod pl cr tk sh (by first | assumption | omega) s.heap.size) (zcwV 1 htz zq_519 zq_516 zq_518 zp_14 zq_6 (by decide +kernel) ⟨Nat.le_of_ble_eq_true rfl, Nat.le_of_ble_eq_true rfl⟩) 0 3 rfl rfl [0] [1, 2] rfl rfl rfl (by decide) rfl hl.1 rfl (Nat.le_of_ble_eq_true rfl) zd_M_at_15 ⟨Nat.le_of_ble_eq_true rfl, Nat.le_of_ble_eq_true rfl⟩ (fun r u H locs hw hP hD hS => ?_)
    rcases hw with ⟨j2_, rfl, rfl, hj3_, rfl⟩ | ⟨rfl, rfl, hno4_⟩
    · have hP : va_P (dC, dI) zcl [(bz, .inl (cZ, 16, .inl se)), (bdt, .inl (cI, 16, .inl dt)), (md, .inr (3, [.int th, .int (nI n), .ref bw, .ref bf, .ref bv, .ref bz, .int (nI kn), .ref bsp, .ref bdt, .ref bdr, .ref bhd, .ref bmv, .ref bod, .int (nI pl), .int (nI cr), .int (nI tk)]))] H := hP
      have hD : va_D A [(bz, .inl (cZ, 16, .inl se)), (bdt, .inl (cI, 16, .inl dt)), (md, .inr (3, [.int th, .int (nI n), .ref bw, .ref bf, .ref bv, .ref bz, .int (nI kn), .ref bsp, .ref bdt, .ref bdr, .ref bhd, .ref bmv, .ref bod, .int (nI pl), .int (nI cr), .int (nI tk)]))] := hD
      refine lv_if_ne (tgt := 25) hx hb zd_M_at_18 (by decide) (fun _ => ?_) (fun c5_ => absurd c5_ (by decide))
      refine lv_iconst (v := (nI 0)) hx hb zd_M_at_25 (by decide) ?_
      refine z_Vi (As := [.int (nI 0), .int (nI 0)]) (rest := []) (wc := [(md, .inr (3, [.int th, .int (nI n), .ref bw, .ref bf, .ref bv, .ref bz, .int (nI kn), .ref bsp, .ref bdt, .ref bdr, .ref bhd, .ref bmv, .ref bod, .int (nI pl), .int (nI cr), .int (nI tk)]))]) (wr := [(bz, .inl (cZ, 16, .inl se)), (bdt, .inl (cI, 16, .inl dt))]) ⟨hx, hb, hml, hown, htz⟩ hK hP hD hS hA (k_Model_fails_0 l dC dI cI cJ cZ md th n bw bf bv bz kn bsp bdt bdr bhd bmv bod pl cr tk H.size) (zcwV 2 htz zq_523 zq_520 zq_522 zp_15 zq_6 (by decide +kernel) ⟨Nat.le_of_ble_eq_true rfl, Nat.le_of_ble_eq_true rfl⟩) 2 3 rfl rfl [2] [0, 1] rfl rfl rfl (by decide) rfl hl.1 rfl (Nat.le_of_ble_eq_true rfl) zd_M_at_26 ⟨Nat.le_of_ble_eq_true rfl, Nat.le_of_ble_eq_true rfl⟩ (fun r u H locs hw hP hD hS => ?_)
      obtain ⟨rfl, rfl⟩ := hw
      have hP : va_P (dC, dI) zcl [(bz, .inl (cZ, 16, .inl se)), (bdt, .inl (cI, 16, .inl dt)), (md, .inr (3, [.int (nI 0), .int (nI n), .ref bw, .ref bf, .ref bv, .ref bz, .int (nI kn), .ref bsp, .ref bdt, .ref bdr, .ref bhd, .ref bmv, .ref bod, .int (nI pl), .int (nI cr), .int (nI tk)]))] H := hP
      have hD : va_D A [(bz, .inl (cZ, 16, .inl se)), (bdt, .inl (cI, 16, .inl dt)), (md, .inr (3, [.int (nI 0), .int (nI n), .ref bw, .ref bf, .ref bv, .ref bz, .int (nI kn), .ref bsp, .ref bdt, .ref bdr, .ref bhd, .ref bmv, .ref bod, .int (nI pl), .int (nI cr), .int (nI tk)]))] := hD
      refine lv_if_eq (tgt := 34) hx hb zd_M_at_29 (by decide) (fun _ => ?_) (fun c6_ => absurd (by decide) c6_)
      refine lv_aload_n hx hb zd_M_at_34 rfl (lv_at hl 0 rfl) ?_
      refine lv_iload_n hx hb zd_M_at_35 rfl (lv_at hl 1 rfl) ?_
      refine z_Vi (As := [.int (nI j2_)]) (rest := []) (wc := [(md, .inr (3, [.int (nI 0), .int (nI n), .ref bw, .ref bf, .ref bv, .ref bz, .int (nI kn), .ref bsp, .ref bdt, .ref bdr, .ref bhd, .ref bmv, .ref bod, .int (nI pl), .int (nI cr), .int (nI tk)])), (bz, .inl (cZ, 16, .inl se))]) (wr := [(bdt, .inl (cI, 16, .inl dt))]) ⟨hx, hb, hml, hown, htz⟩ hK hP hD hS hA (k_Model_counts_k l dC dI cI cJ cZ md (nI 0) n bw bf bv bz kn bsp bdt bdr bhd bmv bod pl cr tk se j2_ (by first | assumption | omega) (by first | assumption | omega) H.size) (zcwV 1 htz zq_573 zq_570 zq_572 zp_23 zq_6 (by decide +kernel) ⟨Nat.le_of_ble_eq_true rfl, Nat.le_of_ble_eq_true rfl⟩) 2 3 rfl rfl [2, 0] [1] rfl rfl rfl (by decide) rfl hl.1 rfl (Nat.le_of_ble_eq_true rfl) zd_M_at_36 ⟨Nat.le_of_ble_eq_true rfl, Nat.le_of_ble_eq_true rfl⟩ (fun r u H locs hw hP hD hS => ?_)
      rcases hw with ⟨rfl, rfl, hb7_⟩ | ⟨rfl, rfl, hb8_⟩
      · have hP : va_P (dC, dI) zcl [(bdt, .inl (cI, 16, .inl dt)), (md, .inr (3, [.int (nI 0), .int (nI n), .ref bw, .ref bf, .ref bv, .ref bz, .int (nI kn), .ref bsp, .ref bdt, .ref bdr, .ref bhd, .ref bmv, .ref bod, .int (nI pl), .int (nI cr), .int (nI tk)])), (bz, .inl (cZ, 16, .inl se))] H := hP
        have hD : va_D A [(bdt, .inl (cI, 16, .inl dt)), (md, .inr (3, [.int (nI 0), .int (nI n), .ref bw, .ref bf, .ref bv, .ref bz, .int (nI kn), .ref bsp, .ref bdt, .ref bdr, .ref bhd, .ref bmv, .ref bod, .int (nI pl), .int (nI cr), .int (nI tk)])), (bz, .inl (cZ, 16, .inl se))] := hD
        have hct := hb7_
        refine lv_if_eq (tgt := 51) hx hb zd_M_at_39 (by decide) (fun c9_ => absurd c9_ (by decide)) (fun _ => ?_)
        refine lv_aload_n hx hb zd_M_at_42 rfl (lv_at hl 0 rfl) ?_
        refine va_get (D := (dC, dI)) (ci := 3) (v := .ref bdt) (C := zR_M) (T := zF_M) (N := 16) hx hb htz zi_M hown hK hP 1 rfl rfl 8 (by decide) (htz _ zq_467) (fun _ h9 => h9) rfl zd_M_at_43 ?_
        refine lv_iload_n hx hb zd_M_at_46 rfl (lv_at hl 1 rfl) ?_
        refine z_iald hx hb hK hP 0 0 rfl rfl (j := j2_) (by omega) (by decide) zd_M_at_47 ?_
        refine lv_goto (tgt := 52) hx hb zd_M_at_48 (by decide) ?_
        have hP := hP.sub (ws' := [(md, .inr (3, [.int (nI 0), .int (nI n), .ref bw, .ref bf, .ref bv, .ref bz, .int (nI kn), .ref bsp, .ref bdt, .ref bdr, .ref bhd, .ref bmv, .ref bod, .int (nI pl), .int (nI cr), .int (nI tk)])), (bz, .inl (cZ, 16, .inl se)), (bdt, .inl (cI, 16, .inl dt))]) [1, 2, 0] rfl
        have hD := hD.sub (ws' := [(md, .inr (3, [.int (nI 0), .int (nI n), .ref bw, .ref bf, .ref bv, .ref bz, .int (nI kn), .ref bsp, .ref bdt, .ref bdr, .ref bhd, .ref bmv, .ref bod, .int (nI pl), .int (nI cr), .int (nI tk)])), (bz, .inl (cZ, 16, .inl se)), (bdt, .inl (cI, 16, .inl dt))]) [1, 2, 0] (by decide) rfl
        exact z_iret hx hb hr hlocks hP hK hD hS zd_M_at_52 (by decide) (by decide) ⟨by rw [zkc2_0 hk9 (by omega) hj3_]; simp only [zsel]; rw [nI_clamp (by omega), if_pos hct]; first | done | rfl, by rw [zkc2_0 hk9 (by omega) hj3_]⟩
      · have hP : va_P (dC, dI) zcl [(bdt, .inl (cI, 16, .inl dt)), (md, .inr (3, [.int (nI 0), .int (nI n), .ref bw, .ref bf, .ref bv, .ref bz, .int (nI kn), .ref bsp, .ref bdt, .ref bdr, .ref bhd, .ref bmv, .ref bod, .int (nI pl), .int (nI cr), .int (nI tk)])), (bz, .inl (cZ, 16, .inl se))] H := hP
        have hD : va_D A [(bdt, .inl (cI, 16, .inl dt)), (md, .inr (3, [.int (nI 0), .int (nI n), .ref bw, .ref bf, .ref bv, .ref bz, .int (nI kn), .ref bsp, .ref bdt, .ref bdr, .ref bhd, .ref bmv, .ref bod, .int (nI pl), .int (nI cr), .int (nI tk)])), (bz, .inl (cZ, 16, .inl se))] := hD
        have hct := hb8_
        refine lv_if_eq (tgt := 51) hx hb zd_M_at_39 (by decide) (fun _ => ?_) (fun c10_ => absurd (by decide) c10_)
        refine lv_iconst (v := (nI 0)) hx hb zd_M_at_51 (by decide) ?_
        have hP := hP.sub (ws' := [(md, .inr (3, [.int (nI 0), .int (nI n), .ref bw, .ref bf, .ref bv, .ref bz, .int (nI kn), .ref bsp, .ref bdt, .ref bdr, .ref bhd, .ref bmv, .ref bod, .int (nI pl), .int (nI cr), .int (nI tk)])), (bz, .inl (cZ, 16, .inl se)), (bdt, .inl (cI, 16, .inl dt))]) [1, 2, 0] rfl
        have hD := hD.sub (ws' := [(md, .inr (3, [.int (nI 0), .int (nI n), .ref bw, .ref bf, .ref bv, .ref bz, .int (nI kn), .ref bsp, .ref bdt, .ref bdr, .ref bhd, .ref bmv, .ref bod, .int (nI pl), .int (nI cr), .int (nI tk)])), (bz, .inl (cZ, 16, .inl se)), (bdt, .inl (cI, 16, .inl dt))]) [1, 2, 0] (by decide) rfl
        exact z_iret hx hb hr hlocks hP hK hD hS zd_M_at_52 (by decide) (by decide) ⟨by rw [zkc2_0 hk9 (by omega) hj3_]; simp only [zsel]; rw [nI_clamp (by omega), if_neg (Nat.not_le.mpr hct)]; first | done | rfl, by rw [zkc2_0 hk9 (by omega) hj3_]⟩
    · have hP : va_P (dC, dI) zcl [(bz, .inl (cZ, 16, .inl se)), (bdt, .inl (cI, 16, .inl dt)), (md, .inr (3, [.int th, .int (nI n), .ref bw, .ref bf, .ref bv, .ref bz, .int (nI kn), .ref bsp, .ref bdt, .ref bdr, .ref bhd, .ref bmv, .ref bod, .int (nI pl), .int (nI cr), .int (nI tk)]))] H := hP
      have hD : va_D A [(bz, .inl (cZ, 16, .inl se)), (bdt, .inl (cI, 16, .inl dt)), (md, .inr (3, [.int th, .int (nI n), .ref bw, .ref bf, .ref bv, .ref bz, .int (nI kn), .ref bsp, .ref bdt, .ref bdr, .ref bhd, .ref bmv, .ref bod, .int (nI pl), .int (nI cr), .int (nI tk)]))] := hD
      have hno9 := hno4_
      refine lv_if_ne (tgt := 25) hx hb zd_M_at_18 (by decide) (fun c11_ => absurd (by decide) c11_) (fun _ => ?_)
      refine lv_iconst (v := (nI 1)) hx hb zd_M_at_21 (by decide) ?_
      refine lv_goto (tgt := 26) hx hb zd_M_at_22 (by decide) ?_
      refine z_Vi (As := [.int (nI 0), .int (nI 1)]) (rest := []) (wc := [(md, .inr (3, [.int th, .int (nI n), .ref bw, .ref bf, .ref bv, .ref bz, .int (nI kn), .ref bsp, .ref bdt, .ref bdr, .ref bhd, .ref bmv, .ref bod, .int (nI pl), .int (nI cr), .int (nI tk)]))]) (wr := [(bz, .inl (cZ, 16, .inl se)), (bdt, .inl (cI, 16, .inl dt))]) ⟨hx, hb, hml, hown, htz⟩ hK hP hD hS hA (k_Model_fails_2 l dC dI cI cJ cZ md th n bw bf bv bz kn bsp bdt bdr bhd bmv bod pl cr tk H.size) (zcwV 2 htz zq_523 zq_520 zq_522 zp_15 zq_6 (by decide +kernel) ⟨Nat.le_of_ble_eq_true rfl, Nat.le_of_ble_eq_true rfl⟩) 2 3 rfl rfl [2] [0, 1] rfl rfl rfl (by decide) rfl hl.1 rfl (Nat.le_of_ble_eq_true rfl) zd_M_at_26 ⟨Nat.le_of_ble_eq_true rfl, Nat.le_of_ble_eq_true rfl⟩ (fun r u H locs hw hP hD hS => ?_)
      obtain ⟨rfl, rfl⟩ := hw
      have hP : va_P (dC, dI) zcl [(bz, .inl (cZ, 16, .inl se)), (bdt, .inl (cI, 16, .inl dt)), (md, .inr (3, [.int (nI 2), .int (nI n), .ref bw, .ref bf, .ref bv, .ref bz, .int (nI kn), .ref bsp, .ref bdt, .ref bdr, .ref bhd, .ref bmv, .ref bod, .int (nI pl), .int (nI cr), .int (nI tk)]))] H := hP
      have hD : va_D A [(bz, .inl (cZ, 16, .inl se)), (bdt, .inl (cI, 16, .inl dt)), (md, .inr (3, [.int (nI 2), .int (nI n), .ref bw, .ref bf, .ref bv, .ref bz, .int (nI kn), .ref bsp, .ref bdt, .ref bdr, .ref bhd, .ref bmv, .ref bod, .int (nI pl), .int (nI cr), .int (nI tk)]))] := hD
      refine lv_if_eq (tgt := 34) hx hb zd_M_at_29 (by decide) (fun c12_ => absurd c12_ (by decide)) (fun _ => ?_)
      refine lv_iconst (v := (nI 0)) hx hb zd_M_at_32 (by decide) ?_
      have hP := hP.sub (ws' := [(md, .inr (3, [.int (nI 2), .int (nI n), .ref bw, .ref bf, .ref bv, .ref bz, .int (nI kn), .ref bsp, .ref bdt, .ref bdr, .ref bhd, .ref bmv, .ref bod, .int (nI pl), .int (nI cr), .int (nI tk)])), (bz, .inl (cZ, 16, .inl se)), (bdt, .inl (cI, 16, .inl dt))]) [2, 0, 1] rfl
      have hD := hD.sub (ws' := [(md, .inr (3, [.int (nI 2), .int (nI n), .ref bw, .ref bf, .ref bv, .ref bz, .int (nI kn), .ref bsp, .ref bdt, .ref bdr, .ref bhd, .ref bmv, .ref bod, .int (nI pl), .int (nI cr), .int (nI tk)])), (bz, .inl (cZ, 16, .inl se)), (bdt, .inl (cI, 16, .inl dt))]) [2, 0, 1] (by decide) rfl
      exact z_iret hx hb hr hlocks hP hK hD hS zd_M_at_33 (by decide) (by decide) ⟨by simp only [zsel]; rw [zkc2_2 hk9 (by omega) hno9]; first | done | rfl, by rw [zkc2_2 hk9 (by omega) hno9]⟩
  · have hk9 : kn = 0 := (nI_eq (b := 0) (by omega) (by decide)).mp c1_
    refine lv_iconst (v := (nI 1)) hx hb zd_M_at_8 (by decide) ?_
    refine lv_goto (tgt := 13) hx hb zd_M_at_9 (by decide) ?_
    refine lv_aload_n hx hb zd_M_at_13 rfl (lv_at hl 0 rfl) ?_
    refine lv_iload_n hx hb zd_M_at_14 rfl (lv_at hl 1 rfl) ?_
    refine z_Vi (As := [.int sh]) (rest := [.int (nI 1), .ref md]) (wc := [(md, .inr (3, [.int th, .int (nI n), .ref bw, .ref bf, .ref bv, .ref bz, .int (nI kn), .ref bsp, .ref bdt, .ref bdr, .ref bhd, .ref bmv, .ref bod, .int (nI pl), .int (nI cr), .int (nI tk)]))]) (wr := [(bz, .inl (cZ, 16, .inl se)), (bdt, .inl (cI, 16, .inl dt))]) ⟨hx, hb, hml, hown, htz⟩ hK hP hD hS hA (k_Model_isShare l dC dI cI cJ cZ md th n bw bf bv bz kn bsp bdt bdr bhd bmv bod pl cr tk sh (by first | assumption | omega) s.heap.size) (zcwV 1 htz zq_519 zq_516 zq_518 zp_14 zq_6 (by decide +kernel) ⟨Nat.le_of_ble_eq_true rfl, Nat.le_of_ble_eq_true rfl⟩) 0 3 rfl rfl [0] [1, 2] rfl rfl rfl (by decide) rfl hl.1 rfl (Nat.le_of_ble_eq_true rfl) zd_M_at_15 ⟨Nat.le_of_ble_eq_true rfl, Nat.le_of_ble_eq_true rfl⟩ (fun r u H locs hw hP hD hS => ?_)
    rcases hw with ⟨j13_, rfl, rfl, hj14_, rfl⟩ | ⟨rfl, rfl, hno15_⟩
    · have hP : va_P (dC, dI) zcl [(bz, .inl (cZ, 16, .inl se)), (bdt, .inl (cI, 16, .inl dt)), (md, .inr (3, [.int th, .int (nI n), .ref bw, .ref bf, .ref bv, .ref bz, .int (nI kn), .ref bsp, .ref bdt, .ref bdr, .ref bhd, .ref bmv, .ref bod, .int (nI pl), .int (nI cr), .int (nI tk)]))] H := hP
      have hD : va_D A [(bz, .inl (cZ, 16, .inl se)), (bdt, .inl (cI, 16, .inl dt)), (md, .inr (3, [.int th, .int (nI n), .ref bw, .ref bf, .ref bv, .ref bz, .int (nI kn), .ref bsp, .ref bdt, .ref bdr, .ref bhd, .ref bmv, .ref bod, .int (nI pl), .int (nI cr), .int (nI tk)]))] := hD
      refine lv_if_ne (tgt := 25) hx hb zd_M_at_18 (by decide) (fun _ => ?_) (fun c16_ => absurd c16_ (by decide))
      refine lv_iconst (v := (nI 0)) hx hb zd_M_at_25 (by decide) ?_
      refine z_Vi (As := [.int (nI 1), .int (nI 0)]) (rest := []) (wc := [(md, .inr (3, [.int th, .int (nI n), .ref bw, .ref bf, .ref bv, .ref bz, .int (nI kn), .ref bsp, .ref bdt, .ref bdr, .ref bhd, .ref bmv, .ref bod, .int (nI pl), .int (nI cr), .int (nI tk)]))]) (wr := [(bz, .inl (cZ, 16, .inl se)), (bdt, .inl (cI, 16, .inl dt))]) ⟨hx, hb, hml, hown, htz⟩ hK hP hD hS hA (k_Model_fails_1 l dC dI cI cJ cZ md th n bw bf bv bz kn bsp bdt bdr bhd bmv bod pl cr tk (nI 0) H.size) (zcwV 2 htz zq_523 zq_520 zq_522 zp_15 zq_6 (by decide +kernel) ⟨Nat.le_of_ble_eq_true rfl, Nat.le_of_ble_eq_true rfl⟩) 2 3 rfl rfl [2] [0, 1] rfl rfl rfl (by decide) rfl hl.1 rfl (Nat.le_of_ble_eq_true rfl) zd_M_at_26 ⟨Nat.le_of_ble_eq_true rfl, Nat.le_of_ble_eq_true rfl⟩ (fun r u H locs hw hP hD hS => ?_)
      obtain ⟨rfl, rfl⟩ := hw
      have hP : va_P (dC, dI) zcl [(bz, .inl (cZ, 16, .inl se)), (bdt, .inl (cI, 16, .inl dt)), (md, .inr (3, [.int (nI 1), .int (nI n), .ref bw, .ref bf, .ref bv, .ref bz, .int (nI kn), .ref bsp, .ref bdt, .ref bdr, .ref bhd, .ref bmv, .ref bod, .int (nI pl), .int (nI cr), .int (nI tk)]))] H := hP
      have hD : va_D A [(bz, .inl (cZ, 16, .inl se)), (bdt, .inl (cI, 16, .inl dt)), (md, .inr (3, [.int (nI 1), .int (nI n), .ref bw, .ref bf, .ref bv, .ref bz, .int (nI kn), .ref bsp, .ref bdt, .ref bdr, .ref bhd, .ref bmv, .ref bod, .int (nI pl), .int (nI cr), .int (nI tk)]))] := hD
      refine lv_if_eq (tgt := 34) hx hb zd_M_at_29 (by decide) (fun c17_ => absurd c17_ (by decide)) (fun _ => ?_)
      refine lv_iconst (v := (nI 0)) hx hb zd_M_at_32 (by decide) ?_
      have hP := hP.sub (ws' := [(md, .inr (3, [.int (nI 1), .int (nI n), .ref bw, .ref bf, .ref bv, .ref bz, .int (nI kn), .ref bsp, .ref bdt, .ref bdr, .ref bhd, .ref bmv, .ref bod, .int (nI pl), .int (nI cr), .int (nI tk)])), (bz, .inl (cZ, 16, .inl se)), (bdt, .inl (cI, 16, .inl dt))]) [2, 0, 1] rfl
      have hD := hD.sub (ws' := [(md, .inr (3, [.int (nI 1), .int (nI n), .ref bw, .ref bf, .ref bv, .ref bz, .int (nI kn), .ref bsp, .ref bdt, .ref bdr, .ref bhd, .ref bmv, .ref bod, .int (nI pl), .int (nI cr), .int (nI tk)])), (bz, .inl (cZ, 16, .inl se)), (bdt, .inl (cI, 16, .inl dt))]) [2, 0, 1] (by decide) rfl
      exact z_iret hx hb hr hlocks hP hK hD hS zd_M_at_33 (by decide) (by decide) ⟨by simp only [zsel]; rw [zkc2_1 hk9]; first | done | rfl, by rw [zkc2_1 hk9]⟩
    · have hP : va_P (dC, dI) zcl [(bz, .inl (cZ, 16, .inl se)), (bdt, .inl (cI, 16, .inl dt)), (md, .inr (3, [.int th, .int (nI n), .ref bw, .ref bf, .ref bv, .ref bz, .int (nI kn), .ref bsp, .ref bdt, .ref bdr, .ref bhd, .ref bmv, .ref bod, .int (nI pl), .int (nI cr), .int (nI tk)]))] H := hP
      have hD : va_D A [(bz, .inl (cZ, 16, .inl se)), (bdt, .inl (cI, 16, .inl dt)), (md, .inr (3, [.int th, .int (nI n), .ref bw, .ref bf, .ref bv, .ref bz, .int (nI kn), .ref bsp, .ref bdt, .ref bdr, .ref bhd, .ref bmv, .ref bod, .int (nI pl), .int (nI cr), .int (nI tk)]))] := hD
      have hno9 := hno15_
      refine lv_if_ne (tgt := 25) hx hb zd_M_at_18 (by decide) (fun c18_ => absurd (by decide) c18_) (fun _ => ?_)
      refine lv_iconst (v := (nI 1)) hx hb zd_M_at_21 (by decide) ?_
      refine lv_goto (tgt := 26) hx hb zd_M_at_22 (by decide) ?_
      refine z_Vi (As := [.int (nI 1), .int (nI 1)]) (rest := []) (wc := [(md, .inr (3, [.int th, .int (nI n), .ref bw, .ref bf, .ref bv, .ref bz, .int (nI kn), .ref bsp, .ref bdt, .ref bdr, .ref bhd, .ref bmv, .ref bod, .int (nI pl), .int (nI cr), .int (nI tk)]))]) (wr := [(bz, .inl (cZ, 16, .inl se)), (bdt, .inl (cI, 16, .inl dt))]) ⟨hx, hb, hml, hown, htz⟩ hK hP hD hS hA (k_Model_fails_1 l dC dI cI cJ cZ md th n bw bf bv bz kn bsp bdt bdr bhd bmv bod pl cr tk (nI 1) H.size) (zcwV 2 htz zq_523 zq_520 zq_522 zp_15 zq_6 (by decide +kernel) ⟨Nat.le_of_ble_eq_true rfl, Nat.le_of_ble_eq_true rfl⟩) 2 3 rfl rfl [2] [0, 1] rfl rfl rfl (by decide) rfl hl.1 rfl (Nat.le_of_ble_eq_true rfl) zd_M_at_26 ⟨Nat.le_of_ble_eq_true rfl, Nat.le_of_ble_eq_true rfl⟩ (fun r u H locs hw hP hD hS => ?_)
      obtain ⟨rfl, rfl⟩ := hw
      have hP : va_P (dC, dI) zcl [(bz, .inl (cZ, 16, .inl se)), (bdt, .inl (cI, 16, .inl dt)), (md, .inr (3, [.int (nI 1), .int (nI n), .ref bw, .ref bf, .ref bv, .ref bz, .int (nI kn), .ref bsp, .ref bdt, .ref bdr, .ref bhd, .ref bmv, .ref bod, .int (nI pl), .int (nI cr), .int (nI tk)]))] H := hP
      have hD : va_D A [(bz, .inl (cZ, 16, .inl se)), (bdt, .inl (cI, 16, .inl dt)), (md, .inr (3, [.int (nI 1), .int (nI n), .ref bw, .ref bf, .ref bv, .ref bz, .int (nI kn), .ref bsp, .ref bdt, .ref bdr, .ref bhd, .ref bmv, .ref bod, .int (nI pl), .int (nI cr), .int (nI tk)]))] := hD
      refine lv_if_eq (tgt := 34) hx hb zd_M_at_29 (by decide) (fun c19_ => absurd c19_ (by decide)) (fun _ => ?_)
      refine lv_iconst (v := (nI 0)) hx hb zd_M_at_32 (by decide) ?_
      have hP := hP.sub (ws' := [(md, .inr (3, [.int (nI 1), .int (nI n), .ref bw, .ref bf, .ref bv, .ref bz, .int (nI kn), .ref bsp, .ref bdt, .ref bdr, .ref bhd, .ref bmv, .ref bod, .int (nI pl), .int (nI cr), .int (nI tk)])), (bz, .inl (cZ, 16, .inl se)), (bdt, .inl (cI, 16, .inl dt))]) [2, 0, 1] rfl
      have hD := hD.sub (ws' := [(md, .inr (3, [.int (nI 1), .int (nI n), .ref bw, .ref bf, .ref bv, .ref bz, .int (nI kn), .ref bsp, .ref bdt, .ref bdr, .ref bhd, .ref bmv, .ref bod, .int (nI pl), .int (nI cr), .int (nI tk)])), (bz, .inl (cZ, 16, .inl se)), (bdt, .inl (cI, 16, .inl dt))]) [2, 0, 1] (by decide) rfl
      exact z_iret hx hb hr hlocks hP hK hD hS zd_M_at_33 (by decide) (by decide) ⟨by simp only [zsel]; rw [zkc2_1 hk9]; first | done | rfl, by rw [zkc2_1 hk9]⟩
set_option maxHeartbeats 4000000 in
set_option maxRecDepth 100000 in
/--  -/
theorem k_Model_failed (l : Launch) (dC : Nat → ClassId) (dI : Nat → Nat → Nat) (cI cJ cZ : ClassId) (md : Nat) (th : Int32) (n : Nat) (bw : Nat) (bf : Nat) (bv : Nat) (bz : Nat) (kn : Nat) (bsp : Nat) (bdt : Nat) (bdr : Nat) (bhd : Nat) (bmv : Nat) (bod : Nat) (pl : Nat) (cr : Nat) (tk : Nat) (wk : Nat → Int32) (fl : Nat → Int32) (se : Nat → Int32) (sp : Nat → Int32) (sh : Int32) (hn : n ≤ 16) (hkn : kn ≤ 1) (hcfg : zcfg n wk fl) (sz : Nat) : zMi l zy_M_failed zw_M_failed ({ frames := 2, cells := 0, slots := 0, locals := 43 }) [.ref md, .int sh] (dC, dI) zcl [(cI, .int), (cJ, .long), (cZ, .boolean)] [(md, .inr (3, [.int th, .int (nI n), .ref bw, .ref bf, .ref bv, .ref bz, .int (nI kn), .ref bsp, .ref bdt, .ref bdr, .ref bhd, .ref bmv, .ref bod, .int (nI pl), .int (nI cr), .int (nI tk)])), (bw, .inl (cI, 16, .inl wk)), (bf, .inl (cI, 16, .inl fl)), (bz, .inl (cZ, 16, .inl se)), (bsp, .inl (cI, 16, .inl sp))] sz (fun (r : Int32) (u : va_W) => r = zsel (zkc2 kn n sh) (zwin se n) (zmf sp wk fl) 0 sh ∧ u = [(md, .inr (3, [.int (nI (zkc2 kn n sh)), .int (nI n), .ref bw, .ref bf, .ref bv, .ref bz, .int (nI kn), .ref bsp, .ref bdt, .ref bdr, .ref bhd, .ref bmv, .ref bod, .int (nI pl), .int (nI cr), .int (nI tk)])), (bw, .inl (cI, 16, .inl wk)), (bf, .inl (cI, 16, .inl fl)), (bz, .inl (cZ, 16, .inl se)), (bsp, .inl (cI, 16, .inl sp))]) := by
  refine z_ofi (cc := zc_M_failed) (maxL := 3) (ret := (some .int)) (by decide) rfl (Nat.le_of_ble_eq_true rfl) ?_
  intro p e s m below meth c A ls hx hb hr hml hown htz hlocks hin hA hP hK hD hS hl
  have hown : s.vm.findClass zR_M = some m.cls := hown
  have hl : lv_has ls 3 [(0, .ref md), (1, .int sh)] := hl
  refine lv_aload_n hx hb zd_M_failed_0 rfl (lv_at hl 0 rfl) ?_
  refine lv_aload_n hx hb zd_M_failed_1 rfl (lv_at hl 0 rfl) ?_
  refine va_get (D := (dC, dI)) (ci := 3) (v := .int (nI kn)) (C := zR_M) (T := zF_M) (N := 16) hx hb htz zi_M hown hK hP 0 rfl rfl 6 (by decide) (htz _ zq_465) (fun _ h9 => h9) rfl zd_M_failed_2 ?_
  refine lv_if_ne (tgt := 12) hx hb zd_M_failed_5 (by decide) (fun c1_ => ?_) (fun c1_ => ?_)
  · have hk9 : ¬ kn = 0 := fun h => c1_ (by rw [h]; rfl)
    refine lv_iconst (v := (nI 0)) hx hb zd_M_failed_12 (by decide) ?_
    refine lv_aload_n hx hb zd_M_failed_13 rfl (lv_at hl 0 rfl) ?_
    refine lv_iload_n hx hb zd_M_failed_14 rfl (lv_at hl 1 rfl) ?_
    refine z_Vi (As := [.int sh]) (rest := [.int (nI 0), .ref md]) (wc := [(md, .inr (3, [.int th, .int (nI n), .ref bw, .ref bf, .ref bv, .ref bz, .int (nI kn), .ref bsp, .ref bdt, .ref bdr, .ref bhd, .ref bmv, .ref bod, .int (nI pl), .int (nI cr), .int (nI tk)]))]) (wr := [(bw, .inl (cI, 16, .inl wk)), (bf, .inl (cI, 16, .inl fl)), (bz, .inl (cZ, 16, .inl se)), (bsp, .inl (cI, 16, .inl sp))]) ⟨hx, hb, hml, hown, htz⟩ hK hP hD hS hA (k_Model_isShare l dC dI cI cJ cZ md th n bw bf bv bz kn bsp bdt bdr bhd bmv bod pl cr tk sh (by first | assumption | omega) s.heap.size) (zcwV 1 htz zq_519 zq_516 zq_518 zp_14 zq_6 (by decide +kernel) ⟨Nat.le_of_ble_eq_true rfl, Nat.le_of_ble_eq_true rfl⟩) 0 3 rfl rfl [0] [1, 2, 3, 4] rfl rfl rfl (by decide) rfl hl.1 rfl (Nat.le_of_ble_eq_true rfl) zd_M_failed_15 ⟨Nat.le_of_ble_eq_true rfl, Nat.le_of_ble_eq_true rfl⟩ (fun r u H locs hw hP hD hS => ?_)
    rcases hw with ⟨j2_, rfl, rfl, hj3_, rfl⟩ | ⟨rfl, rfl, hno4_⟩
    · have hP : va_P (dC, dI) zcl [(bw, .inl (cI, 16, .inl wk)), (bf, .inl (cI, 16, .inl fl)), (bz, .inl (cZ, 16, .inl se)), (bsp, .inl (cI, 16, .inl sp)), (md, .inr (3, [.int th, .int (nI n), .ref bw, .ref bf, .ref bv, .ref bz, .int (nI kn), .ref bsp, .ref bdt, .ref bdr, .ref bhd, .ref bmv, .ref bod, .int (nI pl), .int (nI cr), .int (nI tk)]))] H := hP
      have hD : va_D A [(bw, .inl (cI, 16, .inl wk)), (bf, .inl (cI, 16, .inl fl)), (bz, .inl (cZ, 16, .inl se)), (bsp, .inl (cI, 16, .inl sp)), (md, .inr (3, [.int th, .int (nI n), .ref bw, .ref bf, .ref bv, .ref bz, .int (nI kn), .ref bsp, .ref bdt, .ref bdr, .ref bhd, .ref bmv, .ref bod, .int (nI pl), .int (nI cr), .int (nI tk)]))] := hD
      refine lv_if_ne (tgt := 25) hx hb zd_M_failed_18 (by decide) (fun _ => ?_) (fun c5_ => absurd c5_ (by decide))
      refine lv_iconst (v := (nI 0)) hx hb zd_M_failed_25 (by decide) ?_
      refine z_Vi (As := [.int (nI 0), .int (nI 0)]) (rest := []) (wc := [(md, .inr (3, [.int th, .int (nI n), .ref bw, .ref bf, .ref bv, .ref bz, .int (nI kn), .ref bsp, .ref bdt, .ref bdr, .ref bhd, .ref bmv, .ref bod, .int (nI pl), .int (nI cr), .int (nI tk)]))]) (wr := [(bw, .inl (cI, 16, .inl wk)), (bf, .inl (cI, 16, .inl fl)), (bz, .inl (cZ, 16, .inl se)), (bsp, .inl (cI, 16, .inl sp))]) ⟨hx, hb, hml, hown, htz⟩ hK hP hD hS hA (k_Model_fails_0 l dC dI cI cJ cZ md th n bw bf bv bz kn bsp bdt bdr bhd bmv bod pl cr tk H.size) (zcwV 2 htz zq_523 zq_520 zq_522 zp_15 zq_6 (by decide +kernel) ⟨Nat.le_of_ble_eq_true rfl, Nat.le_of_ble_eq_true rfl⟩) 4 3 rfl rfl [4] [0, 1, 2, 3] rfl rfl rfl (by decide) rfl hl.1 rfl (Nat.le_of_ble_eq_true rfl) zd_M_failed_26 ⟨Nat.le_of_ble_eq_true rfl, Nat.le_of_ble_eq_true rfl⟩ (fun r u H locs hw hP hD hS => ?_)
      obtain ⟨rfl, rfl⟩ := hw
      have hP : va_P (dC, dI) zcl [(bw, .inl (cI, 16, .inl wk)), (bf, .inl (cI, 16, .inl fl)), (bz, .inl (cZ, 16, .inl se)), (bsp, .inl (cI, 16, .inl sp)), (md, .inr (3, [.int (nI 0), .int (nI n), .ref bw, .ref bf, .ref bv, .ref bz, .int (nI kn), .ref bsp, .ref bdt, .ref bdr, .ref bhd, .ref bmv, .ref bod, .int (nI pl), .int (nI cr), .int (nI tk)]))] H := hP
      have hD : va_D A [(bw, .inl (cI, 16, .inl wk)), (bf, .inl (cI, 16, .inl fl)), (bz, .inl (cZ, 16, .inl se)), (bsp, .inl (cI, 16, .inl sp)), (md, .inr (3, [.int (nI 0), .int (nI n), .ref bw, .ref bf, .ref bv, .ref bz, .int (nI kn), .ref bsp, .ref bdt, .ref bdr, .ref bhd, .ref bmv, .ref bod, .int (nI pl), .int (nI cr), .int (nI tk)]))] := hD
      refine lv_if_eq (tgt := 34) hx hb zd_M_failed_29 (by decide) (fun _ => ?_) (fun c6_ => absurd (by decide) c6_)
      refine lv_aload_n hx hb zd_M_failed_34 rfl (lv_at hl 0 rfl) ?_
      refine va_get (D := (dC, dI)) (ci := 3) (v := .ref bsp) (C := zR_M) (T := zF_M) (N := 16) hx hb htz zi_M hown hK hP 4 rfl rfl 7 (by decide) (htz _ zq_466) (fun _ h9 => h9) rfl zd_M_failed_35 ?_
      refine lv_iload_n hx hb zd_M_failed_38 rfl (lv_at hl 1 rfl) ?_
      refine z_iald hx hb hK hP 3 0 rfl rfl (j := j2_) (by omega) (by decide) zd_M_failed_39 ?_
      refine lv_aload_n hx hb zd_M_failed_40 rfl (lv_at hl 0 rfl) ?_
      refine va_get (D := (dC, dI)) (ci := 3) (v := .ref bw) (C := zR_M) (T := zF_M) (N := 16) hx hb htz zi_M hown hK hP 4 rfl rfl 2 (by decide) (htz _ zq_461) (fun _ h9 => h9) rfl zd_M_failed_41 ?_
      refine lv_iload_n hx hb zd_M_failed_44 rfl (lv_at hl 1 rfl) ?_
      refine z_iald hx hb hK hP 0 0 rfl rfl (j := j2_) (by omega) (by decide) zd_M_failed_45 ?_
      refine lv_idiv hx hb zd_M_failed_46 (by obtain ⟨a, b, h1, h2, h3, h4, h5⟩ := hcfg _ hj3_; rw [h4]; exact nI_ne0 h1 (by omega)) ?_
      refine lv_istore_n (lv' := [(2, .int ((sp j2_) / (wk j2_))), (0, .ref md), (1, .int (nI j2_))]) hx hb zd_M_failed_47 rfl hl (by decide) rfl (fun ls hl => ?_)
      refine lv_aload_n hx hb zd_M_failed_48 rfl (lv_at hl 1 rfl) ?_
      refine lv_iload_n hx hb zd_M_failed_49 rfl (lv_at hl 2 rfl) ?_
      refine z_Vi (As := [.int (nI j2_)]) (rest := []) (wc := [(md, .inr (3, [.int (nI 0), .int (nI n), .ref bw, .ref bf, .ref bv, .ref bz, .int (nI kn), .ref bsp, .ref bdt, .ref bdr, .ref bhd, .ref bmv, .ref bod, .int (nI pl), .int (nI cr), .int (nI tk)])), (bz, .inl (cZ, 16, .inl se))]) (wr := [(bw, .inl (cI, 16, .inl wk)), (bf, .inl (cI, 16, .inl fl)), (bsp, .inl (cI, 16, .inl sp))]) ⟨hx, hb, hml, hown, htz⟩ hK hP hD hS hA (k_Model_counts_k l dC dI cI cJ cZ md (nI 0) n bw bf bv bz kn bsp bdt bdr bhd bmv bod pl cr tk se j2_ (by first | assumption | omega) (by first | assumption | omega) H.size) (zcwV 1 htz zq_573 zq_570 zq_572 zp_23 zq_6 (by decide +kernel) ⟨Nat.le_of_ble_eq_true rfl, Nat.le_of_ble_eq_true rfl⟩) 4 3 rfl rfl [4, 2] [0, 1, 3] rfl rfl rfl (by decide) rfl hl.1 rfl (Nat.le_of_ble_eq_true rfl) zd_M_failed_50 ⟨Nat.le_of_ble_eq_true rfl, Nat.le_of_ble_eq_true rfl⟩ (fun r u H locs hw hP hD hS => ?_)
      rcases hw with ⟨rfl, rfl, hb7_⟩ | ⟨rfl, rfl, hb8_⟩
      · have hP : va_P (dC, dI) zcl [(bw, .inl (cI, 16, .inl wk)), (bf, .inl (cI, 16, .inl fl)), (bsp, .inl (cI, 16, .inl sp)), (md, .inr (3, [.int (nI 0), .int (nI n), .ref bw, .ref bf, .ref bv, .ref bz, .int (nI kn), .ref bsp, .ref bdt, .ref bdr, .ref bhd, .ref bmv, .ref bod, .int (nI pl), .int (nI cr), .int (nI tk)])), (bz, .inl (cZ, 16, .inl se))] H := hP
        have hD : va_D A [(bw, .inl (cI, 16, .inl wk)), (bf, .inl (cI, 16, .inl fl)), (bsp, .inl (cI, 16, .inl sp)), (md, .inr (3, [.int (nI 0), .int (nI n), .ref bw, .ref bf, .ref bv, .ref bz, .int (nI kn), .ref bsp, .ref bdt, .ref bdr, .ref bhd, .ref bmv, .ref bod, .int (nI pl), .int (nI cr), .int (nI tk)])), (bz, .inl (cZ, 16, .inl se))] := hD
        have hct := hb7_
        refine lv_if_ne (tgt := 60) hx hb zd_M_failed_53 (by decide) (fun _ => ?_) (fun c9_ => absurd c9_ (by decide))
        refine lv_iload_n hx hb zd_M_failed_60 rfl (lv_at hl 0 rfl) ?_
        refine lv_aload_n hx hb zd_M_failed_61 rfl (lv_at hl 1 rfl) ?_
        refine va_get (D := (dC, dI)) (ci := 3) (v := .ref bf) (C := zR_M) (T := zF_M) (N := 16) hx hb htz zi_M hown hK hP 3 rfl rfl 3 (by decide) (htz _ zq_462) (fun _ h9 => h9) rfl zd_M_failed_62 ?_
        refine lv_iload_n hx hb zd_M_failed_65 rfl (lv_at hl 2 rfl) ?_
        refine z_iald hx hb hK hP 1 0 rfl rfl (j := j2_) (by omega) (by decide) zd_M_failed_66 ?_
        refine lv_icmp_ge (tgt := 74) hx hb zd_M_failed_67 (by decide) (fun c10_ => ?_) (fun c10_ => ?_)
        · have hmf := z_nlt c10_
          refine lv_aload_n hx hb zd_M_failed_74 rfl (lv_at hl 1 rfl) ?_
          refine va_get (D := (dC, dI)) (ci := 3) (v := .ref bf) (C := zR_M) (T := zF_M) (N := 16) hx hb htz zi_M hown hK hP 3 rfl rfl 3 (by decide) (htz _ zq_462) (fun _ h9 => h9) rfl zd_M_failed_75 ?_
          refine lv_iload_n hx hb zd_M_failed_78 rfl (lv_at hl 2 rfl) ?_
          refine z_iald hx hb hK hP 1 0 rfl rfl (j := j2_) (by omega) (by decide) zd_M_failed_79 ?_
          have hP := hP.sub (ws' := [(md, .inr (3, [.int (nI 0), .int (nI n), .ref bw, .ref bf, .ref bv, .ref bz, .int (nI kn), .ref bsp, .ref bdt, .ref bdr, .ref bhd, .ref bmv, .ref bod, .int (nI pl), .int (nI cr), .int (nI tk)])), (bw, .inl (cI, 16, .inl wk)), (bf, .inl (cI, 16, .inl fl)), (bz, .inl (cZ, 16, .inl se)), (bsp, .inl (cI, 16, .inl sp))]) [3, 0, 1, 4, 2] rfl
          have hD := hD.sub (ws' := [(md, .inr (3, [.int (nI 0), .int (nI n), .ref bw, .ref bf, .ref bv, .ref bz, .int (nI kn), .ref bsp, .ref bdt, .ref bdr, .ref bhd, .ref bmv, .ref bod, .int (nI pl), .int (nI cr), .int (nI tk)])), (bw, .inl (cI, 16, .inl wk)), (bf, .inl (cI, 16, .inl fl)), (bz, .inl (cZ, 16, .inl se)), (bsp, .inl (cI, 16, .inl sp))]) [3, 0, 1, 4, 2] (by decide) rfl
          exact z_iret hx hb hr hlocks hP hK hD hS zd_M_failed_80 (by decide) (by decide) ⟨by rw [zkc2_0 hk9 (by omega) hj3_]; simp only [zsel]; rw [nI_clamp (by omega), if_pos hct]; first | done | rfl | (simp only [zmf]; rw [if_neg hmf]; first | done | rfl), by rw [zkc2_0 hk9 (by omega) hj3_]⟩
        · have hmf := z_nle c10_
          refine lv_iload_n hx hb zd_M_failed_70 rfl (lv_at hl 0 rfl) ?_
          refine lv_goto (tgt := 80) hx hb zd_M_failed_71 (by decide) ?_
          have hP := hP.sub (ws' := [(md, .inr (3, [.int (nI 0), .int (nI n), .ref bw, .ref bf, .ref bv, .ref bz, .int (nI kn), .ref bsp, .ref bdt, .ref bdr, .ref bhd, .ref bmv, .ref bod, .int (nI pl), .int (nI cr), .int (nI tk)])), (bw, .inl (cI, 16, .inl wk)), (bf, .inl (cI, 16, .inl fl)), (bz, .inl (cZ, 16, .inl se)), (bsp, .inl (cI, 16, .inl sp))]) [3, 0, 1, 4, 2] rfl
          have hD := hD.sub (ws' := [(md, .inr (3, [.int (nI 0), .int (nI n), .ref bw, .ref bf, .ref bv, .ref bz, .int (nI kn), .ref bsp, .ref bdt, .ref bdr, .ref bhd, .ref bmv, .ref bod, .int (nI pl), .int (nI cr), .int (nI tk)])), (bw, .inl (cI, 16, .inl wk)), (bf, .inl (cI, 16, .inl fl)), (bz, .inl (cZ, 16, .inl se)), (bsp, .inl (cI, 16, .inl sp))]) [3, 0, 1, 4, 2] (by decide) rfl
          exact z_iret hx hb hr hlocks hP hK hD hS zd_M_failed_80 (by decide) (by decide) ⟨by rw [zkc2_0 hk9 (by omega) hj3_]; simp only [zsel]; rw [nI_clamp (by omega), if_pos hct]; first | done | rfl | (simp only [zmf]; rw [if_pos hmf]; first | done | rfl), by rw [zkc2_0 hk9 (by omega) hj3_]⟩
      · have hP : va_P (dC, dI) zcl [(bw, .inl (cI, 16, .inl wk)), (bf, .inl (cI, 16, .inl fl)), (bsp, .inl (cI, 16, .inl sp)), (md, .inr (3, [.int (nI 0), .int (nI n), .ref bw, .ref bf, .ref bv, .ref bz, .int (nI kn), .ref bsp, .ref bdt, .ref bdr, .ref bhd, .ref bmv, .ref bod, .int (nI pl), .int (nI cr), .int (nI tk)])), (bz, .inl (cZ, 16, .inl se))] H := hP
        have hD : va_D A [(bw, .inl (cI, 16, .inl wk)), (bf, .inl (cI, 16, .inl fl)), (bsp, .inl (cI, 16, .inl sp)), (md, .inr (3, [.int (nI 0), .int (nI n), .ref bw, .ref bf, .ref bv, .ref bz, .int (nI kn), .ref bsp, .ref bdt, .ref bdr, .ref bhd, .ref bmv, .ref bod, .int (nI pl), .int (nI cr), .int (nI tk)])), (bz, .inl (cZ, 16, .inl se))] := hD
        have hct := hb8_
        refine lv_if_ne (tgt := 60) hx hb zd_M_failed_53 (by decide) (fun c11_ => absurd (by decide) c11_) (fun _ => ?_)
        refine lv_iconst (v := (nI 0)) hx hb zd_M_failed_56 (by decide) ?_
        refine lv_goto (tgt := 80) hx hb zd_M_failed_57 (by decide) ?_
        have hP := hP.sub (ws' := [(md, .inr (3, [.int (nI 0), .int (nI n), .ref bw, .ref bf, .ref bv, .ref bz, .int (nI kn), .ref bsp, .ref bdt, .ref bdr, .ref bhd, .ref bmv, .ref bod, .int (nI pl), .int (nI cr), .int (nI tk)])), (bw, .inl (cI, 16, .inl wk)), (bf, .inl (cI, 16, .inl fl)), (bz, .inl (cZ, 16, .inl se)), (bsp, .inl (cI, 16, .inl sp))]) [3, 0, 1, 4, 2] rfl
        have hD := hD.sub (ws' := [(md, .inr (3, [.int (nI 0), .int (nI n), .ref bw, .ref bf, .ref bv, .ref bz, .int (nI kn), .ref bsp, .ref bdt, .ref bdr, .ref bhd, .ref bmv, .ref bod, .int (nI pl), .int (nI cr), .int (nI tk)])), (bw, .inl (cI, 16, .inl wk)), (bf, .inl (cI, 16, .inl fl)), (bz, .inl (cZ, 16, .inl se)), (bsp, .inl (cI, 16, .inl sp))]) [3, 0, 1, 4, 2] (by decide) rfl
        exact z_iret hx hb hr hlocks hP hK hD hS zd_M_failed_80 (by decide) (by decide) ⟨by rw [zkc2_0 hk9 (by omega) hj3_]; simp only [zsel]; rw [nI_clamp (by omega), if_neg (Nat.not_le.mpr hct)]; first | done | rfl | (simp only [zmf]; rw [if_neg hmf]; first | done | rfl), by rw [zkc2_0 hk9 (by omega) hj3_]⟩
    · have hP : va_P (dC, dI) zcl [(bw, .inl (cI, 16, .inl wk)), (bf, .inl (cI, 16, .inl fl)), (bz, .inl (cZ, 16, .inl se)), (bsp, .inl (cI, 16, .inl sp)), (md, .inr (3, [.int th, .int (nI n), .ref bw, .ref bf, .ref bv, .ref bz, .int (nI kn), .ref bsp, .ref bdt, .ref bdr, .ref bhd, .ref bmv, .ref bod, .int (nI pl), .int (nI cr), .int (nI tk)]))] H := hP
      have hD : va_D A [(bw, .inl (cI, 16, .inl wk)), (bf, .inl (cI, 16, .inl fl)), (bz, .inl (cZ, 16, .inl se)), (bsp, .inl (cI, 16, .inl sp)), (md, .inr (3, [.int th, .int (nI n), .ref bw, .ref bf, .ref bv, .ref bz, .int (nI kn), .ref bsp, .ref bdt, .ref bdr, .ref bhd, .ref bmv, .ref bod, .int (nI pl), .int (nI cr), .int (nI tk)]))] := hD
      have hno9 := hno4_
      refine lv_if_ne (tgt := 25) hx hb zd_M_failed_18 (by decide) (fun c12_ => absurd (by decide) c12_) (fun _ => ?_)
      refine lv_iconst (v := (nI 1)) hx hb zd_M_failed_21 (by decide) ?_
      refine lv_goto (tgt := 26) hx hb zd_M_failed_22 (by decide) ?_
      refine z_Vi (As := [.int (nI 0), .int (nI 1)]) (rest := []) (wc := [(md, .inr (3, [.int th, .int (nI n), .ref bw, .ref bf, .ref bv, .ref bz, .int (nI kn), .ref bsp, .ref bdt, .ref bdr, .ref bhd, .ref bmv, .ref bod, .int (nI pl), .int (nI cr), .int (nI tk)]))]) (wr := [(bw, .inl (cI, 16, .inl wk)), (bf, .inl (cI, 16, .inl fl)), (bz, .inl (cZ, 16, .inl se)), (bsp, .inl (cI, 16, .inl sp))]) ⟨hx, hb, hml, hown, htz⟩ hK hP hD hS hA (k_Model_fails_2 l dC dI cI cJ cZ md th n bw bf bv bz kn bsp bdt bdr bhd bmv bod pl cr tk H.size) (zcwV 2 htz zq_523 zq_520 zq_522 zp_15 zq_6 (by decide +kernel) ⟨Nat.le_of_ble_eq_true rfl, Nat.le_of_ble_eq_true rfl⟩) 4 3 rfl rfl [4] [0, 1, 2, 3] rfl rfl rfl (by decide) rfl hl.1 rfl (Nat.le_of_ble_eq_true rfl) zd_M_failed_26 ⟨Nat.le_of_ble_eq_true rfl, Nat.le_of_ble_eq_true rfl⟩ (fun r u H locs hw hP hD hS => ?_)
      obtain ⟨rfl, rfl⟩ := hw
      have hP : va_P (dC, dI) zcl [(bw, .inl (cI, 16, .inl wk)), (bf, .inl (cI, 16, .inl fl)), (bz, .inl (cZ, 16, .inl se)), (bsp, .inl (cI, 16, .inl sp)), (md, .inr (3, [.int (nI 2), .int (nI n), .ref bw, .ref bf, .ref bv, .ref bz, .int (nI kn), .ref bsp, .ref bdt, .ref bdr, .ref bhd, .ref bmv, .ref bod, .int (nI pl), .int (nI cr), .int (nI tk)]))] H := hP
      have hD : va_D A [(bw, .inl (cI, 16, .inl wk)), (bf, .inl (cI, 16, .inl fl)), (bz, .inl (cZ, 16, .inl se)), (bsp, .inl (cI, 16, .inl sp)), (md, .inr (3, [.int (nI 2), .int (nI n), .ref bw, .ref bf, .ref bv, .ref bz, .int (nI kn), .ref bsp, .ref bdt, .ref bdr, .ref bhd, .ref bmv, .ref bod, .int (nI pl), .int (nI cr), .int (nI tk)]))] := hD
      refine lv_if_eq (tgt := 34) hx hb zd_M_failed_29 (by decide) (fun c13_ => absurd c13_ (by decide)) (fun _ => ?_)
      refine lv_iconst (v := (nI 0)) hx hb zd_M_failed_32 (by decide) ?_
      have hP := hP.sub (ws' := [(md, .inr (3, [.int (nI 2), .int (nI n), .ref bw, .ref bf, .ref bv, .ref bz, .int (nI kn), .ref bsp, .ref bdt, .ref bdr, .ref bhd, .ref bmv, .ref bod, .int (nI pl), .int (nI cr), .int (nI tk)])), (bw, .inl (cI, 16, .inl wk)), (bf, .inl (cI, 16, .inl fl)), (bz, .inl (cZ, 16, .inl se)), (bsp, .inl (cI, 16, .inl sp))]) [4, 0, 1, 2, 3] rfl
      have hD := hD.sub (ws' := [(md, .inr (3, [.int (nI 2), .int (nI n), .ref bw, .ref bf, .ref bv, .ref bz, .int (nI kn), .ref bsp, .ref bdt, .ref bdr, .ref bhd, .ref bmv, .ref bod, .int (nI pl), .int (nI cr), .int (nI tk)])), (bw, .inl (cI, 16, .inl wk)), (bf, .inl (cI, 16, .inl fl)), (bz, .inl (cZ, 16, .inl se)), (bsp, .inl (cI, 16, .inl sp))]) [4, 0, 1, 2, 3] (by decide) rfl
      exact z_iret hx hb hr hlocks hP hK hD hS zd_M_failed_33 (by decide) (by decide) ⟨by simp only [zsel]; rw [zkc2_2 hk9 (by omega) hno9]; first | done | rfl, by rw [zkc2_2 hk9 (by omega) hno9]⟩
  · have hk9 : kn = 0 := (nI_eq (b := 0) (by omega) (by decide)).mp c1_
    refine lv_iconst (v := (nI 1)) hx hb zd_M_failed_8 (by decide) ?_
    refine lv_goto (tgt := 13) hx hb zd_M_failed_9 (by decide) ?_
    refine lv_aload_n hx hb zd_M_failed_13 rfl (lv_at hl 0 rfl) ?_
    refine lv_iload_n hx hb zd_M_failed_14 rfl (lv_at hl 1 rfl) ?_
    refine z_Vi (As := [.int sh]) (rest := [.int (nI 1), .ref md]) (wc := [(md, .inr (3, [.int th, .int (nI n), .ref bw, .ref bf, .ref bv, .ref bz, .int (nI kn), .ref bsp, .ref bdt, .ref bdr, .ref bhd, .ref bmv, .ref bod, .int (nI pl), .int (nI cr), .int (nI tk)]))]) (wr := [(bw, .inl (cI, 16, .inl wk)), (bf, .inl (cI, 16, .inl fl)), (bz, .inl (cZ, 16, .inl se)), (bsp, .inl (cI, 16, .inl sp))]) ⟨hx, hb, hml, hown, htz⟩ hK hP hD hS hA (k_Model_isShare l dC dI cI cJ cZ md th n bw bf bv bz kn bsp bdt bdr bhd bmv bod pl cr tk sh (by first | assumption | omega) s.heap.size) (zcwV 1 htz zq_519 zq_516 zq_518 zp_14 zq_6 (by decide +kernel) ⟨Nat.le_of_ble_eq_true rfl, Nat.le_of_ble_eq_true rfl⟩) 0 3 rfl rfl [0] [1, 2, 3, 4] rfl rfl rfl (by decide) rfl hl.1 rfl (Nat.le_of_ble_eq_true rfl) zd_M_failed_15 ⟨Nat.le_of_ble_eq_true rfl, Nat.le_of_ble_eq_true rfl⟩ (fun r u H locs hw hP hD hS => ?_)
    rcases hw with ⟨j14_, rfl, rfl, hj15_, rfl⟩ | ⟨rfl, rfl, hno16_⟩
    · have hP : va_P (dC, dI) zcl [(bw, .inl (cI, 16, .inl wk)), (bf, .inl (cI, 16, .inl fl)), (bz, .inl (cZ, 16, .inl se)), (bsp, .inl (cI, 16, .inl sp)), (md, .inr (3, [.int th, .int (nI n), .ref bw, .ref bf, .ref bv, .ref bz, .int (nI kn), .ref bsp, .ref bdt, .ref bdr, .ref bhd, .ref bmv, .ref bod, .int (nI pl), .int (nI cr), .int (nI tk)]))] H := hP
      have hD : va_D A [(bw, .inl (cI, 16, .inl wk)), (bf, .inl (cI, 16, .inl fl)), (bz, .inl (cZ, 16, .inl se)), (bsp, .inl (cI, 16, .inl sp)), (md, .inr (3, [.int th, .int (nI n), .ref bw, .ref bf, .ref bv, .ref bz, .int (nI kn), .ref bsp, .ref bdt, .ref bdr, .ref bhd, .ref bmv, .ref bod, .int (nI pl), .int (nI cr), .int (nI tk)]))] := hD
      refine lv_if_ne (tgt := 25) hx hb zd_M_failed_18 (by decide) (fun _ => ?_) (fun c17_ => absurd c17_ (by decide))
      refine lv_iconst (v := (nI 0)) hx hb zd_M_failed_25 (by decide) ?_
      refine z_Vi (As := [.int (nI 1), .int (nI 0)]) (rest := []) (wc := [(md, .inr (3, [.int th, .int (nI n), .ref bw, .ref bf, .ref bv, .ref bz, .int (nI kn), .ref bsp, .ref bdt, .ref bdr, .ref bhd, .ref bmv, .ref bod, .int (nI pl), .int (nI cr), .int (nI tk)]))]) (wr := [(bw, .inl (cI, 16, .inl wk)), (bf, .inl (cI, 16, .inl fl)), (bz, .inl (cZ, 16, .inl se)), (bsp, .inl (cI, 16, .inl sp))]) ⟨hx, hb, hml, hown, htz⟩ hK hP hD hS hA (k_Model_fails_1 l dC dI cI cJ cZ md th n bw bf bv bz kn bsp bdt bdr bhd bmv bod pl cr tk (nI 0) H.size) (zcwV 2 htz zq_523 zq_520 zq_522 zp_15 zq_6 (by decide +kernel) ⟨Nat.le_of_ble_eq_true rfl, Nat.le_of_ble_eq_true rfl⟩) 4 3 rfl rfl [4] [0, 1, 2, 3] rfl rfl rfl (by decide) rfl hl.1 rfl (Nat.le_of_ble_eq_true rfl) zd_M_failed_26 ⟨Nat.le_of_ble_eq_true rfl, Nat.le_of_ble_eq_true rfl⟩ (fun r u H locs hw hP hD hS => ?_)
      obtain ⟨rfl, rfl⟩ := hw
      have hP : va_P (dC, dI) zcl [(bw, .inl (cI, 16, .inl wk)), (bf, .inl (cI, 16, .inl fl)), (bz, .inl (cZ, 16, .inl se)), (bsp, .inl (cI, 16, .inl sp)), (md, .inr (3, [.int (nI 1), .int (nI n), .ref bw, .ref bf, .ref bv, .ref bz, .int (nI kn), .ref bsp, .ref bdt, .ref bdr, .ref bhd, .ref bmv, .ref bod, .int (nI pl), .int (nI cr), .int (nI tk)]))] H := hP
      have hD : va_D A [(bw, .inl (cI, 16, .inl wk)), (bf, .inl (cI, 16, .inl fl)), (bz, .inl (cZ, 16, .inl se)), (bsp, .inl (cI, 16, .inl sp)), (md, .inr (3, [.int (nI 1), .int (nI n), .ref bw, .ref bf, .ref bv, .ref bz, .int (nI kn), .ref bsp, .ref bdt, .ref bdr, .ref bhd, .ref bmv, .ref bod, .int (nI pl), .int (nI cr), .int (nI tk)]))] := hD
      refine lv_if_eq (tgt := 34) hx hb zd_M_failed_29 (by decide) (fun c18_ => absurd c18_ (by decide)) (fun _ => ?_)
      refine lv_iconst (v := (nI 0)) hx hb zd_M_failed_32 (by decide) ?_
      have hP := hP.sub (ws' := [(md, .inr (3, [.int (nI 1), .int (nI n), .ref bw, .ref bf, .ref bv, .ref bz, .int (nI kn), .ref bsp, .ref bdt, .ref bdr, .ref bhd, .ref bmv, .ref bod, .int (nI pl), .int (nI cr), .int (nI tk)])), (bw, .inl (cI, 16, .inl wk)), (bf, .inl (cI, 16, .inl fl)), (bz, .inl (cZ, 16, .inl se)), (bsp, .inl (cI, 16, .inl sp))]) [4, 0, 1, 2, 3] rfl
      have hD := hD.sub (ws' := [(md, .inr (3, [.int (nI 1), .int (nI n), .ref bw, .ref bf, .ref bv, .ref bz, .int (nI kn), .ref bsp, .ref bdt, .ref bdr, .ref bhd, .ref bmv, .ref bod, .int (nI pl), .int (nI cr), .int (nI tk)])), (bw, .inl (cI, 16, .inl wk)), (bf, .inl (cI, 16, .inl fl)), (bz, .inl (cZ, 16, .inl se)), (bsp, .inl (cI, 16, .inl sp))]) [4, 0, 1, 2, 3] (by decide) rfl
      exact z_iret hx hb hr hlocks hP hK hD hS zd_M_failed_33 (by decide) (by decide) ⟨by simp only [zsel]; rw [zkc2_1 hk9]; first | done | rfl, by rw [zkc2_1 hk9]⟩
    · have hP : va_P (dC, dI) zcl [(bw, .inl (cI, 16, .inl wk)), (bf, .inl (cI, 16, .inl fl)), (bz, .inl (cZ, 16, .inl se)), (bsp, .inl (cI, 16, .inl sp)), (md, .inr (3, [.int th, .int (nI n), .ref bw, .ref bf, .ref bv, .ref bz, .int (nI kn), .ref bsp, .ref bdt, .ref bdr, .ref bhd, .ref bmv, .ref bod, .int (nI pl), .int (nI cr), .int (nI tk)]))] H := hP
      have hD : va_D A [(bw, .inl (cI, 16, .inl wk)), (bf, .inl (cI, 16, .inl fl)), (bz, .inl (cZ, 16, .inl se)), (bsp, .inl (cI, 16, .inl sp)), (md, .inr (3, [.int th, .int (nI n), .ref bw, .ref bf, .ref bv, .ref bz, .int (nI kn), .ref bsp, .ref bdt, .ref bdr, .ref bhd, .ref bmv, .ref bod, .int (nI pl), .int (nI cr), .int (nI tk)]))] := hD
      have hno9 := hno16_
      refine lv_if_ne (tgt := 25) hx hb zd_M_failed_18 (by decide) (fun c19_ => absurd (by decide) c19_) (fun _ => ?_)
      refine lv_iconst (v := (nI 1)) hx hb zd_M_failed_21 (by decide) ?_
      refine lv_goto (tgt := 26) hx hb zd_M_failed_22 (by decide) ?_
      refine z_Vi (As := [.int (nI 1), .int (nI 1)]) (rest := []) (wc := [(md, .inr (3, [.int th, .int (nI n), .ref bw, .ref bf, .ref bv, .ref bz, .int (nI kn), .ref bsp, .ref bdt, .ref bdr, .ref bhd, .ref bmv, .ref bod, .int (nI pl), .int (nI cr), .int (nI tk)]))]) (wr := [(bw, .inl (cI, 16, .inl wk)), (bf, .inl (cI, 16, .inl fl)), (bz, .inl (cZ, 16, .inl se)), (bsp, .inl (cI, 16, .inl sp))]) ⟨hx, hb, hml, hown, htz⟩ hK hP hD hS hA (k_Model_fails_1 l dC dI cI cJ cZ md th n bw bf bv bz kn bsp bdt bdr bhd bmv bod pl cr tk (nI 1) H.size) (zcwV 2 htz zq_523 zq_520 zq_522 zp_15 zq_6 (by decide +kernel) ⟨Nat.le_of_ble_eq_true rfl, Nat.le_of_ble_eq_true rfl⟩) 4 3 rfl rfl [4] [0, 1, 2, 3] rfl rfl rfl (by decide) rfl hl.1 rfl (Nat.le_of_ble_eq_true rfl) zd_M_failed_26 ⟨Nat.le_of_ble_eq_true rfl, Nat.le_of_ble_eq_true rfl⟩ (fun r u H locs hw hP hD hS => ?_)
      obtain ⟨rfl, rfl⟩ := hw
      have hP : va_P (dC, dI) zcl [(bw, .inl (cI, 16, .inl wk)), (bf, .inl (cI, 16, .inl fl)), (bz, .inl (cZ, 16, .inl se)), (bsp, .inl (cI, 16, .inl sp)), (md, .inr (3, [.int (nI 1), .int (nI n), .ref bw, .ref bf, .ref bv, .ref bz, .int (nI kn), .ref bsp, .ref bdt, .ref bdr, .ref bhd, .ref bmv, .ref bod, .int (nI pl), .int (nI cr), .int (nI tk)]))] H := hP
      have hD : va_D A [(bw, .inl (cI, 16, .inl wk)), (bf, .inl (cI, 16, .inl fl)), (bz, .inl (cZ, 16, .inl se)), (bsp, .inl (cI, 16, .inl sp)), (md, .inr (3, [.int (nI 1), .int (nI n), .ref bw, .ref bf, .ref bv, .ref bz, .int (nI kn), .ref bsp, .ref bdt, .ref bdr, .ref bhd, .ref bmv, .ref bod, .int (nI pl), .int (nI cr), .int (nI tk)]))] := hD
      refine lv_if_eq (tgt := 34) hx hb zd_M_failed_29 (by decide) (fun c20_ => absurd c20_ (by decide)) (fun _ => ?_)
      refine lv_iconst (v := (nI 0)) hx hb zd_M_failed_32 (by decide) ?_
      have hP := hP.sub (ws' := [(md, .inr (3, [.int (nI 1), .int (nI n), .ref bw, .ref bf, .ref bv, .ref bz, .int (nI kn), .ref bsp, .ref bdt, .ref bdr, .ref bhd, .ref bmv, .ref bod, .int (nI pl), .int (nI cr), .int (nI tk)])), (bw, .inl (cI, 16, .inl wk)), (bf, .inl (cI, 16, .inl fl)), (bz, .inl (cZ, 16, .inl se)), (bsp, .inl (cI, 16, .inl sp))]) [4, 0, 1, 2, 3] rfl
      have hD := hD.sub (ws' := [(md, .inr (3, [.int (nI 1), .int (nI n), .ref bw, .ref bf, .ref bv, .ref bz, .int (nI kn), .ref bsp, .ref bdt, .ref bdr, .ref bhd, .ref bmv, .ref bod, .int (nI pl), .int (nI cr), .int (nI tk)])), (bw, .inl (cI, 16, .inl wk)), (bf, .inl (cI, 16, .inl fl)), (bz, .inl (cZ, 16, .inl se)), (bsp, .inl (cI, 16, .inl sp))]) [4, 0, 1, 2, 3] (by decide) rfl
      exact z_iret hx hb hr hlocks hP hK hD hS zd_M_failed_33 (by decide) (by decide) ⟨by simp only [zsel]; rw [zkc2_1 hk9]; first | done | rfl, by rw [zkc2_1 hk9]⟩
set_option maxHeartbeats 4000000 in
set_option maxRecDepth 100000 in
/--  -/
theorem k_Model_count (l : Launch) (dC : Nat → ClassId) (dI : Nat → Nat → Nat) (cI cJ cZ : ClassId) (md : Nat) (th : Int32) (n : Nat) (bw : Nat) (bf : Nat) (bv : Nat) (bz : Nat) (kn : Nat) (bsp : Nat) (bdt : Nat) (bdr : Nat) (bhd : Nat) (bmv : Nat) (bod : Nat) (pl : Nat) (cr : Nat) (tk : Nat)  (sz : Nat) : zMi l zy_M_count zw_M_count ({ frames := 0, cells := 0, slots := 0, locals := 0 }) [.ref md] (dC, dI) zcl [(cI, .int), (cJ, .long), (cZ, .boolean)] [(md, .inr (3, [.int th, .int (nI n), .ref bw, .ref bf, .ref bv, .ref bz, .int (nI kn), .ref bsp, .ref bdt, .ref bdr, .ref bhd, .ref bmv, .ref bod, .int (nI pl), .int (nI cr), .int (nI tk)]))] sz (fun (r : Int32) (u : va_W) => r = nI n ∧ u = [(md, .inr (3, [.int (nI 0), .int (nI n), .ref bw, .ref bf, .ref bv, .ref bz, .int (nI kn), .ref bsp, .ref bdt, .ref bdr, .ref bhd, .ref bmv, .ref bod, .int (nI pl), .int (nI cr), .int (nI tk)]))]) := by
  refine z_ofi (cc := zc_M_count) (maxL := 1) (ret := (some .int)) (by decide) rfl (Nat.le_of_ble_eq_true rfl) ?_
  intro p e s m below meth c A ls hx hb hr hml hown htz hlocks hin hA hP hK hD hS hl
  have hown : s.vm.findClass zR_M = some m.cls := hown
  have hl : lv_has ls 1 [(0, .ref md)] := hl
  refine lv_aload_n hx hb zd_M_count_0 rfl (lv_at hl 0 rfl) ?_
  refine lv_iconst (v := (nI 0)) hx hb zd_M_count_1 (by decide) ?_
  refine va_put (D := (dC, dI)) (ci := 3) (v := .int (nI 0)) (ty := .int) (C := zR_M) (T := zF_M) (N := 16) hx hb htz zi_M zt_M zt_M_ok zn_M hown hK hP hD hS 0 rfl rfl 0 (by decide) (htz _ zq_459) (fun _ h9 => h9) rfl (by decide +kernel) rfl rfl (Nat.le_of_ble_eq_true rfl) zd_M_count_2 (fun H locs hP hD hS => ?_)
  have hP : va_P (dC, dI) zcl [(md, .inr (3, [.int (nI 0), .int (nI n), .ref bw, .ref bf, .ref bv, .ref bz, .int (nI kn), .ref bsp, .ref bdt, .ref bdr, .ref bhd, .ref bmv, .ref bod, .int (nI pl), .int (nI cr), .int (nI tk)]))] H := hP
  have hD : va_D A [(md, .inr (3, [.int (nI 0), .int (nI n), .ref bw, .ref bf, .ref bv, .ref bz, .int (nI kn), .ref bsp, .ref bdt, .ref bdr, .ref bhd, .ref bmv, .ref bod, .int (nI pl), .int (nI cr), .int (nI tk)]))] := hD
  refine lv_aload_n hx hb zd_M_count_5 rfl (lv_at hl 0 rfl) ?_
  refine va_get (D := (dC, dI)) (ci := 3) (v := .int (nI n)) (C := zR_M) (T := zF_M) (N := 16) hx hb htz zi_M hown hK hP 0 rfl rfl 1 (by decide) (htz _ zq_460) (fun _ h9 => h9) rfl zd_M_count_6 ?_
  exact z_iret hx hb hr hlocks hP hK hD hS zd_M_count_9 (by decide) (by decide) ⟨rfl, rfl⟩
set_option maxHeartbeats 4000000 in
set_option maxRecDepth 100000 in
/--  -/
theorem k_Model_init (l : Launch) (dC : Nat → ClassId) (dI : Nat → Nat → Nat) (cI cJ cZ : ClassId) (md : Nat) (sh : Int32)  (sz : Nat) : zMv l zy_M_init zw_M_init ({ frames := 1, cells := 10, slots := 160, locals := 12 }) [.ref md, .int sh] (dC, dI) zcl [(cI, .int), (cJ, .long), (cZ, .boolean)] [(md, .inr (3, [.int (nI 0), .int (nI 0), .null, .null, .null, .null, .int (nI 0), .null, .null, .null, .null, .null, .null, .int (nI 0), .int (nI 0), .int (nI 0)]))] sz (fun (u : va_W) => ∃ (bw : Nat) (bf : Nat) (bv : Nat) (bz : Nat) (bsp : Nat) (bdt : Nat) (bdr : Nat) (bhd : Nat) (bmv : Nat) (bod : Nat), u = [(md, .inr (3, [.int (nI 0), .int (nI (zcp sh)), .ref bw, .ref bf, .ref bv, .ref bz, .int (nI 0), .ref bsp, .ref bdt, .ref bdr, .ref bhd, .ref bmv, .ref bod, .int (nI 0), .int (nI 0), .int (nI 0)])), (bw, .inl (cI, 16, .inl (fun _ => nI 1))), (bf, .inl (cI, 16, .inl (fun _ => 0))), (bv, .inl (cJ, 16, .inr (.inl (fun _ => 0)))), (bz, .inl (cZ, 16, .inl (fun _ => 0))), (bsp, .inl (cI, 16, .inl (fun _ => 0))), (bdt, .inl (cI, 16, .inl (fun _ => 0))), (bdr, .inl (cI, 16, .inl (fun _ => 0))), (bhd, .inl (cI, 16, .inl (fun _ => 0))), (bmv, .inl (cI, 16, .inl (fun _ => 0))), (bod, .inl (cI, 16, .inl (fun _ => 0)))]) := by
  refine z_ofv (cc := zc_M_init) (maxL := 3) (ret := none) (by decide) rfl (Nat.le_of_ble_eq_true rfl) ?_
  intro p e s m below meth c A ls hx hb hr hml hown htz hlocks hin hA hP hK hD hS hl
  have hown : s.vm.findClass zR_M = some m.cls := hown
  have hl : lv_has ls 3 [(0, .ref md), (1, .int sh)] := hl
  refine lv_aload_n hx hb zd_M_init_0 rfl (lv_at hl 0 rfl) ?_
  refine W.objInit hx hb hown (htz _ zq_458) (htz _ zq_19) (htz _ zq_20) rfl (by rw [hml]; exact hl.1) rfl zd_M_init_1 (Nat.le_of_ble_eq_true rfl) (Nat.le_of_ble_eq_true rfl) ?_
  refine W.eq (g2 := F0 m 4 ls []) rfl ?_
  refine lv_aload_n hx hb zd_M_init_4 rfl (lv_at hl 0 rfl) ?_
  refine lv_bipush (v := (nI 16)) hx hb zd_M_init_5 (by decide) ?_
  refine va_newa (atype := .int) (a0 := (16, .inl (fun _ => 0))) (n := nI 16) hx hb (htz _ zq_52) (ty := .int) rfl hK hP hD hS hA (fun _ => rfl) (by decide) (by decide) (by decide) (by decide) (by decide) zd_M_init_7 (fun q1_ cA9 H hK9 hP hD hS => ?_)
  obtain rfl : cI = cA9 := z_same hK9 0 (t1 := 3) rfl rfl (by decide)
  have hP : va_P (dC, dI) zcl [(md, .inr (3, [.int (nI 0), .int (nI 0), .null, .null, .null, .null, .int (nI 0), .null, .null, .null, .null, .null, .null, .int (nI 0), .int (nI 0), .int (nI 0)])), (q1_, .inl (cI, 16, .inl (fun _ => 0)))] H := hP
  have hD : va_D A [(md, .inr (3, [.int (nI 0), .int (nI 0), .null, .null, .null, .null, .int (nI 0), .null, .null, .null, .null, .null, .null, .int (nI 0), .int (nI 0), .int (nI 0)])), (q1_, .inl (cI, 16, .inl (fun _ => 0)))] := hD
  refine va_putF (D := (dC, dI)) (ci := 3) (v := .ref q1_) (ty := (.array .int)) (C := zR_M) (T := zF_M) (N := 16) hx hb htz zi_M zt_M zt_M_ok zn_M hown hK hP hD hS 0 rfl rfl 2 (by decide) (htz _ zq_461) (fun _ h9 => h9) rfl hin rfl (by decide +kernel) rfl rfl (Nat.le_of_ble_eq_true rfl) zd_M_init_9 (fun H locs hP hD hS => ?_)
  have hP : va_P (dC, dI) zcl [(md, .inr (3, [.int (nI 0), .int (nI 0), .ref q1_, .null, .null, .null, .int (nI 0), .null, .null, .null, .null, .null, .null, .int (nI 0), .int (nI 0), .int (nI 0)])), (q1_, .inl (cI, 16, .inl (fun _ => 0)))] H := hP
  have hD : va_D A [(md, .inr (3, [.int (nI 0), .int (nI 0), .ref q1_, .null, .null, .null, .int (nI 0), .null, .null, .null, .null, .null, .null, .int (nI 0), .int (nI 0), .int (nI 0)])), (q1_, .inl (cI, 16, .inl (fun _ => 0)))] := hD
  refine lv_aload_n hx hb zd_M_init_12 rfl (lv_at hl 0 rfl) ?_
  refine lv_bipush (v := (nI 16)) hx hb zd_M_init_13 (by decide) ?_
  refine va_newa (atype := .int) (a0 := (16, .inl (fun _ => 0))) (n := nI 16) hx hb (htz _ zq_52) (ty := .int) rfl hK hP hD hS hA (fun _ => rfl) (by decide) (by decide) (by decide) (by decide) (by decide) zd_M_init_15 (fun q2_ cA9 H hK9 hP hD hS => ?_)
  obtain rfl : cI = cA9 := z_same hK9 0 (t1 := 3) rfl rfl (by decide)
  have hP : va_P (dC, dI) zcl [(md, .inr (3, [.int (nI 0), .int (nI 0), .ref q1_, .null, .null, .null, .int (nI 0), .null, .null, .null, .null, .null, .null, .int (nI 0), .int (nI 0), .int (nI 0)])), (q1_, .inl (cI, 16, .inl (fun _ => 0))), (q2_, .inl (cI, 16, .inl (fun _ => 0)))] H := hP
  have hD : va_D A [(md, .inr (3, [.int (nI 0), .int (nI 0), .ref q1_, .null, .null, .null, .int (nI 0), .null, .null, .null, .null, .null, .null, .int (nI 0), .int (nI 0), .int (nI 0)])), (q1_, .inl (cI, 16, .inl (fun _ => 0))), (q2_, .inl (cI, 16, .inl (fun _ => 0)))] := hD
  refine va_putF (D := (dC, dI)) (ci := 3) (v := .ref q2_) (ty := (.array .int)) (C := zR_M) (T := zF_M) (N := 16) hx hb htz zi_M zt_M zt_M_ok zn_M hown hK hP hD hS 0 rfl rfl 3 (by decide) (htz _ zq_462) (fun _ h9 => h9) rfl hin rfl (by decide +kernel) rfl rfl (Nat.le_of_ble_eq_true rfl) zd_M_init_17 (fun H locs hP hD hS => ?_)
  have hP : va_P (dC, dI) zcl [(md, .inr (3, [.int (nI 0), .int (nI 0), .ref q1_, .ref q2_, .null, .null, .int (nI 0), .null, .null, .null, .null, .null, .null, .int (nI 0), .int (nI 0), .int (nI 0)])), (q1_, .inl (cI, 16, .inl (fun _ => 0))), (q2_, .inl (cI, 16, .inl (fun _ => 0)))] H := hP
  have hD : va_D A [(md, .inr (3, [.int (nI 0), .int (nI 0), .ref q1_, .ref q2_, .null, .null, .int (nI 0), .null, .null, .null, .null, .null, .null, .int (nI 0), .int (nI 0), .int (nI 0)])), (q1_, .inl (cI, 16, .inl (fun _ => 0))), (q2_, .inl (cI, 16, .inl (fun _ => 0)))] := hD
  refine lv_aload_n hx hb zd_M_init_20 rfl (lv_at hl 0 rfl) ?_
  refine lv_bipush (v := (nI 16)) hx hb zd_M_init_21 (by decide) ?_
  refine va_newa (atype := .long) (a0 := (16, .inr (.inl (fun _ => 0)))) (n := nI 16) hx hb (htz _ zq_53) (ty := .long) rfl hK hP hD hS hA (fun _ => rfl) (by decide) (by decide) (by decide) (by decide) (by decide) zd_M_init_23 (fun q3_ cA9 H hK9 hP hD hS => ?_)
  obtain rfl : cJ = cA9 := z_same hK9 1 (t1 := 3) rfl rfl (by decide)
  have hP : va_P (dC, dI) zcl [(md, .inr (3, [.int (nI 0), .int (nI 0), .ref q1_, .ref q2_, .null, .null, .int (nI 0), .null, .null, .null, .null, .null, .null, .int (nI 0), .int (nI 0), .int (nI 0)])), (q1_, .inl (cI, 16, .inl (fun _ => 0))), (q2_, .inl (cI, 16, .inl (fun _ => 0))), (q3_, .inl (cJ, 16, .inr (.inl (fun _ => 0))))] H := hP
  have hD : va_D A [(md, .inr (3, [.int (nI 0), .int (nI 0), .ref q1_, .ref q2_, .null, .null, .int (nI 0), .null, .null, .null, .null, .null, .null, .int (nI 0), .int (nI 0), .int (nI 0)])), (q1_, .inl (cI, 16, .inl (fun _ => 0))), (q2_, .inl (cI, 16, .inl (fun _ => 0))), (q3_, .inl (cJ, 16, .inr (.inl (fun _ => 0))))] := hD
  refine va_putF (D := (dC, dI)) (ci := 3) (v := .ref q3_) (ty := (.array .long)) (C := zR_M) (T := zF_M) (N := 16) hx hb htz zi_M zt_M zt_M_ok zn_M hown hK hP hD hS 0 rfl rfl 4 (by decide) (htz _ zq_463) (fun _ h9 => h9) rfl hin rfl (by decide +kernel) rfl rfl (Nat.le_of_ble_eq_true rfl) zd_M_init_25 (fun H locs hP hD hS => ?_)
  have hP : va_P (dC, dI) zcl [(md, .inr (3, [.int (nI 0), .int (nI 0), .ref q1_, .ref q2_, .ref q3_, .null, .int (nI 0), .null, .null, .null, .null, .null, .null, .int (nI 0), .int (nI 0), .int (nI 0)])), (q1_, .inl (cI, 16, .inl (fun _ => 0))), (q2_, .inl (cI, 16, .inl (fun _ => 0))), (q3_, .inl (cJ, 16, .inr (.inl (fun _ => 0))))] H := hP
  have hD : va_D A [(md, .inr (3, [.int (nI 0), .int (nI 0), .ref q1_, .ref q2_, .ref q3_, .null, .int (nI 0), .null, .null, .null, .null, .null, .null, .int (nI 0), .int (nI 0), .int (nI 0)])), (q1_, .inl (cI, 16, .inl (fun _ => 0))), (q2_, .inl (cI, 16, .inl (fun _ => 0))), (q3_, .inl (cJ, 16, .inr (.inl (fun _ => 0))))] := hD
  refine lv_aload_n hx hb zd_M_init_28 rfl (lv_at hl 0 rfl) ?_
  refine lv_bipush (v := (nI 16)) hx hb zd_M_init_29 (by decide) ?_
  refine va_newa (atype := .boolean) (a0 := (16, .inl (fun _ => 0))) (n := nI 16) hx hb (htz _ zq_54) (ty := .boolean) rfl hK hP hD hS hA (fun _ => rfl) (by decide) (by decide) (by decide) (by decide) (by decide) zd_M_init_31 (fun q4_ cA9 H hK9 hP hD hS => ?_)
  obtain rfl : cZ = cA9 := z_same hK9 2 (t1 := 3) rfl rfl (by decide)
  have hP : va_P (dC, dI) zcl [(md, .inr (3, [.int (nI 0), .int (nI 0), .ref q1_, .ref q2_, .ref q3_, .null, .int (nI 0), .null, .null, .null, .null, .null, .null, .int (nI 0), .int (nI 0), .int (nI 0)])), (q1_, .inl (cI, 16, .inl (fun _ => 0))), (q2_, .inl (cI, 16, .inl (fun _ => 0))), (q3_, .inl (cJ, 16, .inr (.inl (fun _ => 0)))), (q4_, .inl (cZ, 16, .inl (fun _ => 0)))] H := hP
  have hD : va_D A [(md, .inr (3, [.int (nI 0), .int (nI 0), .ref q1_, .ref q2_, .ref q3_, .null, .int (nI 0), .null, .null, .null, .null, .null, .null, .int (nI 0), .int (nI 0), .int (nI 0)])), (q1_, .inl (cI, 16, .inl (fun _ => 0))), (q2_, .inl (cI, 16, .inl (fun _ => 0))), (q3_, .inl (cJ, 16, .inr (.inl (fun _ => 0)))), (q4_, .inl (cZ, 16, .inl (fun _ => 0)))] := hD
  refine va_putF (D := (dC, dI)) (ci := 3) (v := .ref q4_) (ty := (.array .boolean)) (C := zR_M) (T := zF_M) (N := 16) hx hb htz zi_M zt_M zt_M_ok zn_M hown hK hP hD hS 0 rfl rfl 5 (by decide) (htz _ zq_464) (fun _ h9 => h9) rfl hin rfl (by decide +kernel) rfl rfl (Nat.le_of_ble_eq_true rfl) zd_M_init_33 (fun H locs hP hD hS => ?_)
  have hP : va_P (dC, dI) zcl [(md, .inr (3, [.int (nI 0), .int (nI 0), .ref q1_, .ref q2_, .ref q3_, .ref q4_, .int (nI 0), .null, .null, .null, .null, .null, .null, .int (nI 0), .int (nI 0), .int (nI 0)])), (q1_, .inl (cI, 16, .inl (fun _ => 0))), (q2_, .inl (cI, 16, .inl (fun _ => 0))), (q3_, .inl (cJ, 16, .inr (.inl (fun _ => 0)))), (q4_, .inl (cZ, 16, .inl (fun _ => 0)))] H := hP
  have hD : va_D A [(md, .inr (3, [.int (nI 0), .int (nI 0), .ref q1_, .ref q2_, .ref q3_, .ref q4_, .int (nI 0), .null, .null, .null, .null, .null, .null, .int (nI 0), .int (nI 0), .int (nI 0)])), (q1_, .inl (cI, 16, .inl (fun _ => 0))), (q2_, .inl (cI, 16, .inl (fun _ => 0))), (q3_, .inl (cJ, 16, .inr (.inl (fun _ => 0)))), (q4_, .inl (cZ, 16, .inl (fun _ => 0)))] := hD
  refine lv_aload_n hx hb zd_M_init_36 rfl (lv_at hl 0 rfl) ?_
  refine lv_bipush (v := (nI 16)) hx hb zd_M_init_37 (by decide) ?_
  refine va_newa (atype := .int) (a0 := (16, .inl (fun _ => 0))) (n := nI 16) hx hb (htz _ zq_52) (ty := .int) rfl hK hP hD hS hA (fun _ => rfl) (by decide) (by decide) (by decide) (by decide) (by decide) zd_M_init_39 (fun q5_ cA9 H hK9 hP hD hS => ?_)
  obtain rfl : cI = cA9 := z_same hK9 0 (t1 := 3) rfl rfl (by decide)
  have hP : va_P (dC, dI) zcl [(md, .inr (3, [.int (nI 0), .int (nI 0), .ref q1_, .ref q2_, .ref q3_, .ref q4_, .int (nI 0), .null, .null, .null, .null, .null, .null, .int (nI 0), .int (nI 0), .int (nI 0)])), (q1_, .inl (cI, 16, .inl (fun _ => 0))), (q2_, .inl (cI, 16, .inl (fun _ => 0))), (q3_, .inl (cJ, 16, .inr (.inl (fun _ => 0)))), (q4_, .inl (cZ, 16, .inl (fun _ => 0))), (q5_, .inl (cI, 16, .inl (fun _ => 0)))] H := hP
  have hD : va_D A [(md, .inr (3, [.int (nI 0), .int (nI 0), .ref q1_, .ref q2_, .ref q3_, .ref q4_, .int (nI 0), .null, .null, .null, .null, .null, .null, .int (nI 0), .int (nI 0), .int (nI 0)])), (q1_, .inl (cI, 16, .inl (fun _ => 0))), (q2_, .inl (cI, 16, .inl (fun _ => 0))), (q3_, .inl (cJ, 16, .inr (.inl (fun _ => 0)))), (q4_, .inl (cZ, 16, .inl (fun _ => 0))), (q5_, .inl (cI, 16, .inl (fun _ => 0)))] := hD
  refine va_putF (D := (dC, dI)) (ci := 3) (v := .ref q5_) (ty := (.array .int)) (C := zR_M) (T := zF_M) (N := 16) hx hb htz zi_M zt_M zt_M_ok zn_M hown hK hP hD hS 0 rfl rfl 7 (by decide) (htz _ zq_466) (fun _ h9 => h9) rfl hin rfl (by decide +kernel) rfl rfl (Nat.le_of_ble_eq_true rfl) zd_M_init_41 (fun H locs hP hD hS => ?_)
  have hP : va_P (dC, dI) zcl [(md, .inr (3, [.int (nI 0), .int (nI 0), .ref q1_, .ref q2_, .ref q3_, .ref q4_, .int (nI 0), .ref q5_, .null, .null, .null, .null, .null, .int (nI 0), .int (nI 0), .int (nI 0)])), (q1_, .inl (cI, 16, .inl (fun _ => 0))), (q2_, .inl (cI, 16, .inl (fun _ => 0))), (q3_, .inl (cJ, 16, .inr (.inl (fun _ => 0)))), (q4_, .inl (cZ, 16, .inl (fun _ => 0))), (q5_, .inl (cI, 16, .inl (fun _ => 0)))] H := hP
  have hD : va_D A [(md, .inr (3, [.int (nI 0), .int (nI 0), .ref q1_, .ref q2_, .ref q3_, .ref q4_, .int (nI 0), .ref q5_, .null, .null, .null, .null, .null, .int (nI 0), .int (nI 0), .int (nI 0)])), (q1_, .inl (cI, 16, .inl (fun _ => 0))), (q2_, .inl (cI, 16, .inl (fun _ => 0))), (q3_, .inl (cJ, 16, .inr (.inl (fun _ => 0)))), (q4_, .inl (cZ, 16, .inl (fun _ => 0))), (q5_, .inl (cI, 16, .inl (fun _ => 0)))] := hD
  refine lv_aload_n hx hb zd_M_init_44 rfl (lv_at hl 0 rfl) ?_
  refine lv_bipush (v := (nI 16)) hx hb zd_M_init_45 (by decide) ?_
  refine va_newa (atype := .int) (a0 := (16, .inl (fun _ => 0))) (n := nI 16) hx hb (htz _ zq_52) (ty := .int) rfl hK hP hD hS hA (fun _ => rfl) (by decide) (by decide) (by decide) (by decide) (by decide) zd_M_init_47 (fun q6_ cA9 H hK9 hP hD hS => ?_)
  obtain rfl : cI = cA9 := z_same hK9 0 (t1 := 3) rfl rfl (by decide)
  have hP : va_P (dC, dI) zcl [(md, .inr (3, [.int (nI 0), .int (nI 0), .ref q1_, .ref q2_, .ref q3_, .ref q4_, .int (nI 0), .ref q5_, .null, .null, .null, .null, .null, .int (nI 0), .int (nI 0), .int (nI 0)])), (q1_, .inl (cI, 16, .inl (fun _ => 0))), (q2_, .inl (cI, 16, .inl (fun _ => 0))), (q3_, .inl (cJ, 16, .inr (.inl (fun _ => 0)))), (q4_, .inl (cZ, 16, .inl (fun _ => 0))), (q5_, .inl (cI, 16, .inl (fun _ => 0))), (q6_, .inl (cI, 16, .inl (fun _ => 0)))] H := hP
  have hD : va_D A [(md, .inr (3, [.int (nI 0), .int (nI 0), .ref q1_, .ref q2_, .ref q3_, .ref q4_, .int (nI 0), .ref q5_, .null, .null, .null, .null, .null, .int (nI 0), .int (nI 0), .int (nI 0)])), (q1_, .inl (cI, 16, .inl (fun _ => 0))), (q2_, .inl (cI, 16, .inl (fun _ => 0))), (q3_, .inl (cJ, 16, .inr (.inl (fun _ => 0)))), (q4_, .inl (cZ, 16, .inl (fun _ => 0))), (q5_, .inl (cI, 16, .inl (fun _ => 0))), (q6_, .inl (cI, 16, .inl (fun _ => 0)))] := hD
  refine va_putF (D := (dC, dI)) (ci := 3) (v := .ref q6_) (ty := (.array .int)) (C := zR_M) (T := zF_M) (N := 16) hx hb htz zi_M zt_M zt_M_ok zn_M hown hK hP hD hS 0 rfl rfl 8 (by decide) (htz _ zq_467) (fun _ h9 => h9) rfl hin rfl (by decide +kernel) rfl rfl (Nat.le_of_ble_eq_true rfl) zd_M_init_49 (fun H locs hP hD hS => ?_)
  have hP : va_P (dC, dI) zcl [(md, .inr (3, [.int (nI 0), .int (nI 0), .ref q1_, .ref q2_, .ref q3_, .ref q4_, .int (nI 0), .ref q5_, .ref q6_, .null, .null, .null, .null, .int (nI 0), .int (nI 0), .int (nI 0)])), (q1_, .inl (cI, 16, .inl (fun _ => 0))), (q2_, .inl (cI, 16, .inl (fun _ => 0))), (q3_, .inl (cJ, 16, .inr (.inl (fun _ => 0)))), (q4_, .inl (cZ, 16, .inl (fun _ => 0))), (q5_, .inl (cI, 16, .inl (fun _ => 0))), (q6_, .inl (cI, 16, .inl (fun _ => 0)))] H := hP
  have hD : va_D A [(md, .inr (3, [.int (nI 0), .int (nI 0), .ref q1_, .ref q2_, .ref q3_, .ref q4_, .int (nI 0), .ref q5_, .ref q6_, .null, .null, .null, .null, .int (nI 0), .int (nI 0), .int (nI 0)])), (q1_, .inl (cI, 16, .inl (fun _ => 0))), (q2_, .inl (cI, 16, .inl (fun _ => 0))), (q3_, .inl (cJ, 16, .inr (.inl (fun _ => 0)))), (q4_, .inl (cZ, 16, .inl (fun _ => 0))), (q5_, .inl (cI, 16, .inl (fun _ => 0))), (q6_, .inl (cI, 16, .inl (fun _ => 0)))] := hD
  refine lv_aload_n hx hb zd_M_init_52 rfl (lv_at hl 0 rfl) ?_
  refine lv_bipush (v := (nI 16)) hx hb zd_M_init_53 (by decide) ?_
  refine va_newa (atype := .int) (a0 := (16, .inl (fun _ => 0))) (n := nI 16) hx hb (htz _ zq_52) (ty := .int) rfl hK hP hD hS hA (fun _ => rfl) (by decide) (by decide) (by decide) (by decide) (by decide) zd_M_init_55 (fun q7_ cA9 H hK9 hP hD hS => ?_)
  obtain rfl : cI = cA9 := z_same hK9 0 (t1 := 3) rfl rfl (by decide)
  have hP : va_P (dC, dI) zcl [(md, .inr (3, [.int (nI 0), .int (nI 0), .ref q1_, .ref q2_, .ref q3_, .ref q4_, .int (nI 0), .ref q5_, .ref q6_, .null, .null, .null, .null, .int (nI 0), .int (nI 0), .int (nI 0)])), (q1_, .inl (cI, 16, .inl (fun _ => 0))), (q2_, .inl (cI, 16, .inl (fun _ => 0))), (q3_, .inl (cJ, 16, .inr (.inl (fun _ => 0)))), (q4_, .inl (cZ, 16, .inl (fun _ => 0))), (q5_, .inl (cI, 16, .inl (fun _ => 0))), (q6_, .inl (cI, 16, .inl (fun _ => 0))), (q7_, .inl (cI, 16, .inl (fun _ => 0)))] H := hP
  have hD : va_D A [(md, .inr (3, [.int (nI 0), .int (nI 0), .ref q1_, .ref q2_, .ref q3_, .ref q4_, .int (nI 0), .ref q5_, .ref q6_, .null, .null, .null, .null, .int (nI 0), .int (nI 0), .int (nI 0)])), (q1_, .inl (cI, 16, .inl (fun _ => 0))), (q2_, .inl (cI, 16, .inl (fun _ => 0))), (q3_, .inl (cJ, 16, .inr (.inl (fun _ => 0)))), (q4_, .inl (cZ, 16, .inl (fun _ => 0))), (q5_, .inl (cI, 16, .inl (fun _ => 0))), (q6_, .inl (cI, 16, .inl (fun _ => 0))), (q7_, .inl (cI, 16, .inl (fun _ => 0)))] := hD
  refine va_putF (D := (dC, dI)) (ci := 3) (v := .ref q7_) (ty := (.array .int)) (C := zR_M) (T := zF_M) (N := 16) hx hb htz zi_M zt_M zt_M_ok zn_M hown hK hP hD hS 0 rfl rfl 9 (by decide) (htz _ zq_468) (fun _ h9 => h9) rfl hin rfl (by decide +kernel) rfl rfl (Nat.le_of_ble_eq_true rfl) zd_M_init_57 (fun H locs hP hD hS => ?_)
  have hP : va_P (dC, dI) zcl [(md, .inr (3, [.int (nI 0), .int (nI 0), .ref q1_, .ref q2_, .ref q3_, .ref q4_, .int (nI 0), .ref q5_, .ref q6_, .ref q7_, .null, .null, .null, .int (nI 0), .int (nI 0), .int (nI 0)])), (q1_, .inl (cI, 16, .inl (fun _ => 0))), (q2_, .inl (cI, 16, .inl (fun _ => 0))), (q3_, .inl (cJ, 16, .inr (.inl (fun _ => 0)))), (q4_, .inl (cZ, 16, .inl (fun _ => 0))), (q5_, .inl (cI, 16, .inl (fun _ => 0))), (q6_, .inl (cI, 16, .inl (fun _ => 0))), (q7_, .inl (cI, 16, .inl (fun _ => 0)))] H := hP
  have hD : va_D A [(md, .inr (3, [.int (nI 0), .int (nI 0), .ref q1_, .ref q2_, .ref q3_, .ref q4_, .int (nI 0), .ref q5_, .ref q6_, .ref q7_, .null, .null, .null, .int (nI 0), .int (nI 0), .int (nI 0)])), (q1_, .inl (cI, 16, .inl (fun _ => 0))), (q2_, .inl (cI, 16, .inl (fun _ => 0))), (q3_, .inl (cJ, 16, .inr (.inl (fun _ => 0)))), (q4_, .inl (cZ, 16, .inl (fun _ => 0))), (q5_, .inl (cI, 16, .inl (fun _ => 0))), (q6_, .inl (cI, 16, .inl (fun _ => 0))), (q7_, .inl (cI, 16, .inl (fun _ => 0)))] := hD
  refine lv_aload_n hx hb zd_M_init_60 rfl (lv_at hl 0 rfl) ?_
  refine lv_bipush (v := (nI 16)) hx hb zd_M_init_61 (by decide) ?_
  refine va_newa (atype := .int) (a0 := (16, .inl (fun _ => 0))) (n := nI 16) hx hb (htz _ zq_52) (ty := .int) rfl hK hP hD hS hA (fun _ => rfl) (by decide) (by decide) (by decide) (by decide) (by decide) zd_M_init_63 (fun q8_ cA9 H hK9 hP hD hS => ?_)
  obtain rfl : cI = cA9 := z_same hK9 0 (t1 := 3) rfl rfl (by decide)
  have hP : va_P (dC, dI) zcl [(md, .inr (3, [.int (nI 0), .int (nI 0), .ref q1_, .ref q2_, .ref q3_, .ref q4_, .int (nI 0), .ref q5_, .ref q6_, .ref q7_, .null, .null, .null, .int (nI 0), .int (nI 0), .int (nI 0)])), (q1_, .inl (cI, 16, .inl (fun _ => 0))), (q2_, .inl (cI, 16, .inl (fun _ => 0))), (q3_, .inl (cJ, 16, .inr (.inl (fun _ => 0)))), (q4_, .inl (cZ, 16, .inl (fun _ => 0))), (q5_, .inl (cI, 16, .inl (fun _ => 0))), (q6_, .inl (cI, 16, .inl (fun _ => 0))), (q7_, .inl (cI, 16, .inl (fun _ => 0))), (q8_, .inl (cI, 16, .inl (fun _ => 0)))] H := hP
  have hD : va_D A [(md, .inr (3, [.int (nI 0), .int (nI 0), .ref q1_, .ref q2_, .ref q3_, .ref q4_, .int (nI 0), .ref q5_, .ref q6_, .ref q7_, .null, .null, .null, .int (nI 0), .int (nI 0), .int (nI 0)])), (q1_, .inl (cI, 16, .inl (fun _ => 0))), (q2_, .inl (cI, 16, .inl (fun _ => 0))), (q3_, .inl (cJ, 16, .inr (.inl (fun _ => 0)))), (q4_, .inl (cZ, 16, .inl (fun _ => 0))), (q5_, .inl (cI, 16, .inl (fun _ => 0))), (q6_, .inl (cI, 16, .inl (fun _ => 0))), (q7_, .inl (cI, 16, .inl (fun _ => 0))), (q8_, .inl (cI, 16, .inl (fun _ => 0)))] := hD
  refine va_putF (D := (dC, dI)) (ci := 3) (v := .ref q8_) (ty := (.array .int)) (C := zR_M) (T := zF_M) (N := 16) hx hb htz zi_M zt_M zt_M_ok zn_M hown hK hP hD hS 0 rfl rfl 10 (by decide) (htz _ zq_469) (fun _ h9 => h9) rfl hin rfl (by decide +kernel) rfl rfl (Nat.le_of_ble_eq_true rfl) zd_M_init_65 (fun H locs hP hD hS => ?_)
  have hP : va_P (dC, dI) zcl [(md, .inr (3, [.int (nI 0), .int (nI 0), .ref q1_, .ref q2_, .ref q3_, .ref q4_, .int (nI 0), .ref q5_, .ref q6_, .ref q7_, .ref q8_, .null, .null, .int (nI 0), .int (nI 0), .int (nI 0)])), (q1_, .inl (cI, 16, .inl (fun _ => 0))), (q2_, .inl (cI, 16, .inl (fun _ => 0))), (q3_, .inl (cJ, 16, .inr (.inl (fun _ => 0)))), (q4_, .inl (cZ, 16, .inl (fun _ => 0))), (q5_, .inl (cI, 16, .inl (fun _ => 0))), (q6_, .inl (cI, 16, .inl (fun _ => 0))), (q7_, .inl (cI, 16, .inl (fun _ => 0))), (q8_, .inl (cI, 16, .inl (fun _ => 0)))] H := hP
  have hD : va_D A [(md, .inr (3, [.int (nI 0), .int (nI 0), .ref q1_, .ref q2_, .ref q3_, .ref q4_, .int (nI 0), .ref q5_, .ref q6_, .ref q7_, .ref q8_, .null, .null, .int (nI 0), .int (nI 0), .int (nI 0)])), (q1_, .inl (cI, 16, .inl (fun _ => 0))), (q2_, .inl (cI, 16, .inl (fun _ => 0))), (q3_, .inl (cJ, 16, .inr (.inl (fun _ => 0)))), (q4_, .inl (cZ, 16, .inl (fun _ => 0))), (q5_, .inl (cI, 16, .inl (fun _ => 0))), (q6_, .inl (cI, 16, .inl (fun _ => 0))), (q7_, .inl (cI, 16, .inl (fun _ => 0))), (q8_, .inl (cI, 16, .inl (fun _ => 0)))] := hD
  refine lv_aload_n hx hb zd_M_init_68 rfl (lv_at hl 0 rfl) ?_
  refine lv_bipush (v := (nI 16)) hx hb zd_M_init_69 (by decide) ?_
  refine va_newa (atype := .int) (a0 := (16, .inl (fun _ => 0))) (n := nI 16) hx hb (htz _ zq_52) (ty := .int) rfl hK hP hD hS hA (fun _ => rfl) (by decide) (by decide) (by decide) (by decide) (by decide) zd_M_init_71 (fun q9_ cA9 H hK9 hP hD hS => ?_)
  obtain rfl : cI = cA9 := z_same hK9 0 (t1 := 3) rfl rfl (by decide)
  have hP : va_P (dC, dI) zcl [(md, .inr (3, [.int (nI 0), .int (nI 0), .ref q1_, .ref q2_, .ref q3_, .ref q4_, .int (nI 0), .ref q5_, .ref q6_, .ref q7_, .ref q8_, .null, .null, .int (nI 0), .int (nI 0), .int (nI 0)])), (q1_, .inl (cI, 16, .inl (fun _ => 0))), (q2_, .inl (cI, 16, .inl (fun _ => 0))), (q3_, .inl (cJ, 16, .inr (.inl (fun _ => 0)))), (q4_, .inl (cZ, 16, .inl (fun _ => 0))), (q5_, .inl (cI, 16, .inl (fun _ => 0))), (q6_, .inl (cI, 16, .inl (fun _ => 0))), (q7_, .inl (cI, 16, .inl (fun _ => 0))), (q8_, .inl (cI, 16, .inl (fun _ => 0))), (q9_, .inl (cI, 16, .inl (fun _ => 0)))] H := hP
  have hD : va_D A [(md, .inr (3, [.int (nI 0), .int (nI 0), .ref q1_, .ref q2_, .ref q3_, .ref q4_, .int (nI 0), .ref q5_, .ref q6_, .ref q7_, .ref q8_, .null, .null, .int (nI 0), .int (nI 0), .int (nI 0)])), (q1_, .inl (cI, 16, .inl (fun _ => 0))), (q2_, .inl (cI, 16, .inl (fun _ => 0))), (q3_, .inl (cJ, 16, .inr (.inl (fun _ => 0)))), (q4_, .inl (cZ, 16, .inl (fun _ => 0))), (q5_, .inl (cI, 16, .inl (fun _ => 0))), (q6_, .inl (cI, 16, .inl (fun _ => 0))), (q7_, .inl (cI, 16, .inl (fun _ => 0))), (q8_, .inl (cI, 16, .inl (fun _ => 0))), (q9_, .inl (cI, 16, .inl (fun _ => 0)))] := hD
  refine va_putF (D := (dC, dI)) (ci := 3) (v := .ref q9_) (ty := (.array .int)) (C := zR_M) (T := zF_M) (N := 16) hx hb htz zi_M zt_M zt_M_ok zn_M hown hK hP hD hS 0 rfl rfl 11 (by decide) (htz _ zq_470) (fun _ h9 => h9) rfl hin rfl (by decide +kernel) rfl rfl (Nat.le_of_ble_eq_true rfl) zd_M_init_73 (fun H locs hP hD hS => ?_)
  have hP : va_P (dC, dI) zcl [(md, .inr (3, [.int (nI 0), .int (nI 0), .ref q1_, .ref q2_, .ref q3_, .ref q4_, .int (nI 0), .ref q5_, .ref q6_, .ref q7_, .ref q8_, .ref q9_, .null, .int (nI 0), .int (nI 0), .int (nI 0)])), (q1_, .inl (cI, 16, .inl (fun _ => 0))), (q2_, .inl (cI, 16, .inl (fun _ => 0))), (q3_, .inl (cJ, 16, .inr (.inl (fun _ => 0)))), (q4_, .inl (cZ, 16, .inl (fun _ => 0))), (q5_, .inl (cI, 16, .inl (fun _ => 0))), (q6_, .inl (cI, 16, .inl (fun _ => 0))), (q7_, .inl (cI, 16, .inl (fun _ => 0))), (q8_, .inl (cI, 16, .inl (fun _ => 0))), (q9_, .inl (cI, 16, .inl (fun _ => 0)))] H := hP
  have hD : va_D A [(md, .inr (3, [.int (nI 0), .int (nI 0), .ref q1_, .ref q2_, .ref q3_, .ref q4_, .int (nI 0), .ref q5_, .ref q6_, .ref q7_, .ref q8_, .ref q9_, .null, .int (nI 0), .int (nI 0), .int (nI 0)])), (q1_, .inl (cI, 16, .inl (fun _ => 0))), (q2_, .inl (cI, 16, .inl (fun _ => 0))), (q3_, .inl (cJ, 16, .inr (.inl (fun _ => 0)))), (q4_, .inl (cZ, 16, .inl (fun _ => 0))), (q5_, .inl (cI, 16, .inl (fun _ => 0))), (q6_, .inl (cI, 16, .inl (fun _ => 0))), (q7_, .inl (cI, 16, .inl (fun _ => 0))), (q8_, .inl (cI, 16, .inl (fun _ => 0))), (q9_, .inl (cI, 16, .inl (fun _ => 0)))] := hD
  refine lv_aload_n hx hb zd_M_init_76 rfl (lv_at hl 0 rfl) ?_
  refine lv_bipush (v := (nI 16)) hx hb zd_M_init_77 (by decide) ?_
  refine va_newa (atype := .int) (a0 := (16, .inl (fun _ => 0))) (n := nI 16) hx hb (htz _ zq_52) (ty := .int) rfl hK hP hD hS hA (fun _ => rfl) (by decide) (by decide) (by decide) (by decide) (by decide) zd_M_init_79 (fun q10_ cA9 H hK9 hP hD hS => ?_)
  obtain rfl : cI = cA9 := z_same hK9 0 (t1 := 3) rfl rfl (by decide)
  have hP : va_P (dC, dI) zcl [(md, .inr (3, [.int (nI 0), .int (nI 0), .ref q1_, .ref q2_, .ref q3_, .ref q4_, .int (nI 0), .ref q5_, .ref q6_, .ref q7_, .ref q8_, .ref q9_, .null, .int (nI 0), .int (nI 0), .int (nI 0)])), (q1_, .inl (cI, 16, .inl (fun _ => 0))), (q2_, .inl (cI, 16, .inl (fun _ => 0))), (q3_, .inl (cJ, 16, .inr (.inl (fun _ => 0)))), (q4_, .inl (cZ, 16, .inl (fun _ => 0))), (q5_, .inl (cI, 16, .inl (fun _ => 0))), (q6_, .inl (cI, 16, .inl (fun _ => 0))), (q7_, .inl (cI, 16, .inl (fun _ => 0))), (q8_, .inl (cI, 16, .inl (fun _ => 0))), (q9_, .inl (cI, 16, .inl (fun _ => 0))), (q10_, .inl (cI, 16, .inl (fun _ => 0)))] H := hP
  have hD : va_D A [(md, .inr (3, [.int (nI 0), .int (nI 0), .ref q1_, .ref q2_, .ref q3_, .ref q4_, .int (nI 0), .ref q5_, .ref q6_, .ref q7_, .ref q8_, .ref q9_, .null, .int (nI 0), .int (nI 0), .int (nI 0)])), (q1_, .inl (cI, 16, .inl (fun _ => 0))), (q2_, .inl (cI, 16, .inl (fun _ => 0))), (q3_, .inl (cJ, 16, .inr (.inl (fun _ => 0)))), (q4_, .inl (cZ, 16, .inl (fun _ => 0))), (q5_, .inl (cI, 16, .inl (fun _ => 0))), (q6_, .inl (cI, 16, .inl (fun _ => 0))), (q7_, .inl (cI, 16, .inl (fun _ => 0))), (q8_, .inl (cI, 16, .inl (fun _ => 0))), (q9_, .inl (cI, 16, .inl (fun _ => 0))), (q10_, .inl (cI, 16, .inl (fun _ => 0)))] := hD
  refine va_putF (D := (dC, dI)) (ci := 3) (v := .ref q10_) (ty := (.array .int)) (C := zR_M) (T := zF_M) (N := 16) hx hb htz zi_M zt_M zt_M_ok zn_M hown hK hP hD hS 0 rfl rfl 12 (by decide) (htz _ zq_471) (fun _ h9 => h9) rfl hin rfl (by decide +kernel) rfl rfl (Nat.le_of_ble_eq_true rfl) zd_M_init_81 (fun H locs hP hD hS => ?_)
  have hP : va_P (dC, dI) zcl [(md, .inr (3, [.int (nI 0), .int (nI 0), .ref q1_, .ref q2_, .ref q3_, .ref q4_, .int (nI 0), .ref q5_, .ref q6_, .ref q7_, .ref q8_, .ref q9_, .ref q10_, .int (nI 0), .int (nI 0), .int (nI 0)])), (q1_, .inl (cI, 16, .inl (fun _ => 0))), (q2_, .inl (cI, 16, .inl (fun _ => 0))), (q3_, .inl (cJ, 16, .inr (.inl (fun _ => 0)))), (q4_, .inl (cZ, 16, .inl (fun _ => 0))), (q5_, .inl (cI, 16, .inl (fun _ => 0))), (q6_, .inl (cI, 16, .inl (fun _ => 0))), (q7_, .inl (cI, 16, .inl (fun _ => 0))), (q8_, .inl (cI, 16, .inl (fun _ => 0))), (q9_, .inl (cI, 16, .inl (fun _ => 0))), (q10_, .inl (cI, 16, .inl (fun _ => 0)))] H := hP
  have hD : va_D A [(md, .inr (3, [.int (nI 0), .int (nI 0), .ref q1_, .ref q2_, .ref q3_, .ref q4_, .int (nI 0), .ref q5_, .ref q6_, .ref q7_, .ref q8_, .ref q9_, .ref q10_, .int (nI 0), .int (nI 0), .int (nI 0)])), (q1_, .inl (cI, 16, .inl (fun _ => 0))), (q2_, .inl (cI, 16, .inl (fun _ => 0))), (q3_, .inl (cJ, 16, .inr (.inl (fun _ => 0)))), (q4_, .inl (cZ, 16, .inl (fun _ => 0))), (q5_, .inl (cI, 16, .inl (fun _ => 0))), (q6_, .inl (cI, 16, .inl (fun _ => 0))), (q7_, .inl (cI, 16, .inl (fun _ => 0))), (q8_, .inl (cI, 16, .inl (fun _ => 0))), (q9_, .inl (cI, 16, .inl (fun _ => 0))), (q10_, .inl (cI, 16, .inl (fun _ => 0)))] := hD
  refine lv_aload_n hx hb zd_M_init_84 rfl (lv_at hl 0 rfl) ?_
  refine lv_iload_n hx hb zd_M_init_85 rfl (lv_at hl 1 rfl) ?_
  refine lv_iconst (v := (nI 1)) hx hb zd_M_init_86 (by decide) ?_
  refine lv_icmp_ge (tgt := 94) hx hb zd_M_init_87 (by decide) (fun c11_ => ?_) (fun c11_ => ?_)
  · have clo : ¬ sh < 1 := z_nlt c11_
    refine lv_iload_n hx hb zd_M_init_94 rfl (lv_at hl 1 rfl) ?_
    refine lv_bipush (v := (nI 16)) hx hb zd_M_init_95 (by decide) ?_
    refine lv_icmp_le (tgt := 105) hx hb zd_M_init_97 (by decide) (fun c12_ => ?_) (fun c12_ => ?_)
    · have chi : ¬ 16 < sh := z_nlt c12_
      refine lv_iload_n hx hb zd_M_init_105 rfl (lv_at hl 1 rfl) ?_
      refine z_topi (y := nI (zcp sh)) (zcp_mid clo chi) ?_
      refine va_putF (D := (dC, dI)) (ci := 3) (v := .int (nI (zcp sh))) (ty := .int) (C := zR_M) (T := zF_M) (N := 16) hx hb htz zi_M zt_M zt_M_ok zn_M hown hK hP hD hS 0 rfl rfl 1 (by decide) (htz _ zq_460) (fun _ h9 => h9) rfl hin rfl (by decide +kernel) rfl rfl (Nat.le_of_ble_eq_true rfl) zd_M_init_106 (fun H locs hP hD hS => ?_)
      have hP : va_P (dC, dI) zcl [(md, .inr (3, [.int (nI 0), .int (nI (zcp sh)), .ref q1_, .ref q2_, .ref q3_, .ref q4_, .int (nI 0), .ref q5_, .ref q6_, .ref q7_, .ref q8_, .ref q9_, .ref q10_, .int (nI 0), .int (nI 0), .int (nI 0)])), (q1_, .inl (cI, 16, .inl (fun _ => 0))), (q2_, .inl (cI, 16, .inl (fun _ => 0))), (q3_, .inl (cJ, 16, .inr (.inl (fun _ => 0)))), (q4_, .inl (cZ, 16, .inl (fun _ => 0))), (q5_, .inl (cI, 16, .inl (fun _ => 0))), (q6_, .inl (cI, 16, .inl (fun _ => 0))), (q7_, .inl (cI, 16, .inl (fun _ => 0))), (q8_, .inl (cI, 16, .inl (fun _ => 0))), (q9_, .inl (cI, 16, .inl (fun _ => 0))), (q10_, .inl (cI, 16, .inl (fun _ => 0)))] H := hP
      have hD : va_D A [(md, .inr (3, [.int (nI 0), .int (nI (zcp sh)), .ref q1_, .ref q2_, .ref q3_, .ref q4_, .int (nI 0), .ref q5_, .ref q6_, .ref q7_, .ref q8_, .ref q9_, .ref q10_, .int (nI 0), .int (nI 0), .int (nI 0)])), (q1_, .inl (cI, 16, .inl (fun _ => 0))), (q2_, .inl (cI, 16, .inl (fun _ => 0))), (q3_, .inl (cJ, 16, .inr (.inl (fun _ => 0)))), (q4_, .inl (cZ, 16, .inl (fun _ => 0))), (q5_, .inl (cI, 16, .inl (fun _ => 0))), (q6_, .inl (cI, 16, .inl (fun _ => 0))), (q7_, .inl (cI, 16, .inl (fun _ => 0))), (q8_, .inl (cI, 16, .inl (fun _ => 0))), (q9_, .inl (cI, 16, .inl (fun _ => 0))), (q10_, .inl (cI, 16, .inl (fun _ => 0)))] := hD
      refine lv_iconst (v := (nI 0)) hx hb zd_M_init_109 (by decide) ?_
      refine lv_istore_n (lv' := [(2, .int (nI 0)), (0, .ref md), (1, .int sh)]) hx hb zd_M_init_110 rfl hl (by decide) rfl (fun ls hl => ?_)
      have lp111 : ∀ (fuel : Nat) (k : Nat) (f9 : ZA) (H : Heap) (locs : List Loc) (ls : Array Slot), (k ≤ 16) → (∀ i, i < k → f9 i = nI 1) → 16 - k < fuel → va_P (dC, dI) zcl [(md, .inr (3, [.int (nI 0), .int (nI (zcp sh)), .ref q1_, .ref q2_, .ref q3_, .ref q4_, .int (nI 0), .ref q5_, .ref q6_, .ref q7_, .ref q8_, .ref q9_, .ref q10_, .int (nI 0), .int (nI 0), .int (nI 0)])), (q1_, .inl (cI, 16, .inl f9)), (q2_, .inl (cI, 16, .inl (fun _ => 0))), (q3_, .inl (cJ, 16, .inr (.inl (fun _ => 0)))), (q4_, .inl (cZ, 16, .inl (fun _ => 0))), (q5_, .inl (cI, 16, .inl (fun _ => 0))), (q6_, .inl (cI, 16, .inl (fun _ => 0))), (q7_, .inl (cI, 16, .inl (fun _ => 0))), (q8_, .inl (cI, 16, .inl (fun _ => 0))), (q9_, .inl (cI, 16, .inl (fun _ => 0))), (q10_, .inl (cI, 16, .inl (fun _ => 0)))] H → va_D A [(md, .inr (3, [.int (nI 0), .int (nI (zcp sh)), .ref q1_, .ref q2_, .ref q3_, .ref q4_, .int (nI 0), .ref q5_, .ref q6_, .ref q7_, .ref q8_, .ref q9_, .ref q10_, .int (nI 0), .int (nI 0), .int (nI 0)])), (q1_, .inl (cI, 16, .inl f9)), (q2_, .inl (cI, 16, .inl (fun _ => 0))), (q3_, .inl (cJ, 16, .inr (.inl (fun _ => 0)))), (q4_, .inl (cZ, 16, .inl (fun _ => 0))), (q5_, .inl (cI, 16, .inl (fun _ => 0))), (q6_, .inl (cI, 16, .inl (fun _ => 0))), (q7_, .inl (cI, 16, .inl (fun _ => 0))), (q8_, .inl (cI, 16, .inl (fun _ => 0))), (q9_, .inl (cI, 16, .inl (fun _ => 0))), (q10_, .inl (cI, 16, .inl (fun _ => 0)))] → va_S A s.heap H locs → lv_has ls 3 [(2, .int (nI k)), (0, .ref md), (1, .int sh)] → W p l e ({ frames := 1, cells := 10, slots := 160, locals := 12 } : Room) s m [.ref md, .int sh].toArray below meth c H locs 10 160 (MQ below (va_Qv (fun (u : va_W) => ∃ (bw : Nat) (bf : Nat) (bv : Nat) (bz : Nat) (bsp : Nat) (bdt : Nat) (bdr : Nat) (bhd : Nat) (bmv : Nat) (bod : Nat), u = [(md, .inr (3, [.int (nI 0), .int (nI (zcp sh)), .ref bw, .ref bf, .ref bv, .ref bz, .int (nI 0), .ref bsp, .ref bdt, .ref bdr, .ref bhd, .ref bmv, .ref bod, .int (nI 0), .int (nI 0), .int (nI 0)])), (bw, .inl (cI, 16, .inl (fun _ => nI 1))), (bf, .inl (cI, 16, .inl (fun _ => 0))), (bv, .inl (cJ, 16, .inr (.inl (fun _ => 0)))), (bz, .inl (cZ, 16, .inl (fun _ => 0))), (bsp, .inl (cI, 16, .inl (fun _ => 0))), (bdt, .inl (cI, 16, .inl (fun _ => 0))), (bdr, .inl (cI, 16, .inl (fun _ => 0))), (bhd, .inl (cI, 16, .inl (fun _ => 0))), (bmv, .inl (cI, 16, .inl (fun _ => 0))), (bod, .inl (cI, 16, .inl (fun _ => 0)))]) (zAt (dC, dI) zcl [(cI, .int), (cJ, .long), (cZ, .boolean)] A) A) [.ref md, .int sh].toArray s 10 160 A) (F0 m 111 ls []) := by
        intro fuel
        induction fuel with
        | zero => intro k f9 H locs ls hk hz hf; exact absurd hf (Nat.not_lt_zero _)
        | succ fuel ih =>
          intro k f9 H locs ls hk hz hf hP hD hS hl
          refine lv_iload_n hx hb zd_M_init_111 rfl (lv_at hl 0 rfl) ?_
          refine lv_bipush (v := (nI 16)) hx hb zd_M_init_112 (by decide) ?_
          refine lv_icmp_ge (tgt := 130) hx hb zd_M_init_114 (by decide) (fun c13_ => ?_) (fun c13_ => ?_)
          · have hk2 : k = 16 := Nat.le_antisymm hk (Nat.le_of_not_lt (fun h => nI_ge h (by decide) c13_))
            subst hk2
            have hP := z_swapP (fun _ => nI 1) (i := 1) rfl hz hP
            have hD := z_swapD (.inl (cI, 16, .inl (fun _ => nI 1))) (i := 1) rfl hD
            have hP : va_P (dC, dI) zcl [(md, .inr (3, [.int (nI 0), .int (nI (zcp sh)), .ref q1_, .ref q2_, .ref q3_, .ref q4_, .int (nI 0), .ref q5_, .ref q6_, .ref q7_, .ref q8_, .ref q9_, .ref q10_, .int (nI 0), .int (nI 0), .int (nI 0)])), (q1_, .inl (cI, 16, .inl (fun _ => nI 1))), (q2_, .inl (cI, 16, .inl (fun _ => 0))), (q3_, .inl (cJ, 16, .inr (.inl (fun _ => 0)))), (q4_, .inl (cZ, 16, .inl (fun _ => 0))), (q5_, .inl (cI, 16, .inl (fun _ => 0))), (q6_, .inl (cI, 16, .inl (fun _ => 0))), (q7_, .inl (cI, 16, .inl (fun _ => 0))), (q8_, .inl (cI, 16, .inl (fun _ => 0))), (q9_, .inl (cI, 16, .inl (fun _ => 0))), (q10_, .inl (cI, 16, .inl (fun _ => 0)))] H := hP
            have hD : va_D A [(md, .inr (3, [.int (nI 0), .int (nI (zcp sh)), .ref q1_, .ref q2_, .ref q3_, .ref q4_, .int (nI 0), .ref q5_, .ref q6_, .ref q7_, .ref q8_, .ref q9_, .ref q10_, .int (nI 0), .int (nI 0), .int (nI 0)])), (q1_, .inl (cI, 16, .inl (fun _ => nI 1))), (q2_, .inl (cI, 16, .inl (fun _ => 0))), (q3_, .inl (cJ, 16, .inr (.inl (fun _ => 0)))), (q4_, .inl (cZ, 16, .inl (fun _ => 0))), (q5_, .inl (cI, 16, .inl (fun _ => 0))), (q6_, .inl (cI, 16, .inl (fun _ => 0))), (q7_, .inl (cI, 16, .inl (fun _ => 0))), (q8_, .inl (cI, 16, .inl (fun _ => 0))), (q9_, .inl (cI, 16, .inl (fun _ => 0))), (q10_, .inl (cI, 16, .inl (fun _ => 0)))] := hD
            exact z_vret hx hb hr hlocks hP hK hD hS zd_M_init_130 (by decide) (by decide) ⟨_, _, _, _, _, _, _, _, _, _, rfl⟩
          · have hk2 : k < 16 := Nat.lt_of_not_le (fun h => c13_ (nI_le h (by omega)))
            refine lv_aload_n hx hb zd_M_init_117 rfl (lv_at hl 1 rfl) ?_
            refine va_get (D := (dC, dI)) (ci := 3) (v := .ref q1_) (C := zR_M) (T := zF_M) (N := 16) hx hb htz zi_M hown hK hP 0 rfl rfl 2 (by decide) (htz _ zq_461) (fun _ h9 => h9) rfl zd_M_init_118 ?_
            refine lv_iload_n hx hb zd_M_init_121 rfl (lv_at hl 0 rfl) ?_
            refine lv_iconst (v := (nI 1)) hx hb zd_M_init_122 (by decide) ?_
            refine z_iast hx hb hK hP hD hS 1 0 rfl rfl (j := k) (by omega) (by decide) zd_M_init_123 (fun H locs hP hD hS => ?_)
            have hP : va_P (dC, dI) zcl [(md, .inr (3, [.int (nI 0), .int (nI (zcp sh)), .ref q1_, .ref q2_, .ref q3_, .ref q4_, .int (nI 0), .ref q5_, .ref q6_, .ref q7_, .ref q8_, .ref q9_, .ref q10_, .int (nI 0), .int (nI 0), .int (nI 0)])), (q1_, .inl (cI, 16, .inl (upd f9 k (nI 1)))), (q2_, .inl (cI, 16, .inl (fun _ => 0))), (q3_, .inl (cJ, 16, .inr (.inl (fun _ => 0)))), (q4_, .inl (cZ, 16, .inl (fun _ => 0))), (q5_, .inl (cI, 16, .inl (fun _ => 0))), (q6_, .inl (cI, 16, .inl (fun _ => 0))), (q7_, .inl (cI, 16, .inl (fun _ => 0))), (q8_, .inl (cI, 16, .inl (fun _ => 0))), (q9_, .inl (cI, 16, .inl (fun _ => 0))), (q10_, .inl (cI, 16, .inl (fun _ => 0)))] H := hP
            have hD : va_D A [(md, .inr (3, [.int (nI 0), .int (nI (zcp sh)), .ref q1_, .ref q2_, .ref q3_, .ref q4_, .int (nI 0), .ref q5_, .ref q6_, .ref q7_, .ref q8_, .ref q9_, .ref q10_, .int (nI 0), .int (nI 0), .int (nI 0)])), (q1_, .inl (cI, 16, .inl (upd f9 k (nI 1)))), (q2_, .inl (cI, 16, .inl (fun _ => 0))), (q3_, .inl (cJ, 16, .inr (.inl (fun _ => 0)))), (q4_, .inl (cZ, 16, .inl (fun _ => 0))), (q5_, .inl (cI, 16, .inl (fun _ => 0))), (q6_, .inl (cI, 16, .inl (fun _ => 0))), (q7_, .inl (cI, 16, .inl (fun _ => 0))), (q8_, .inl (cI, 16, .inl (fun _ => 0))), (q9_, .inl (cI, 16, .inl (fun _ => 0))), (q10_, .inl (cI, 16, .inl (fun _ => 0)))] := hD
            refine lv_iinc (v := (nI (k + 1))) (lv' := [(2, .int (nI (k + 1))), (0, .ref md), (1, .int sh)]) hx hb zd_M_init_124 hl (k := 0) rfl (nI_1 k) (by decide) rfl (fun ls hl => ?_)
            refine lv_goto (tgt := 111) hx hb zd_M_init_127 (by decide) ?_
            exact ih (k + 1) (upd f9 k (nI 1)) _ _ _ (by omega) (z_fillstep hz) (by omega) hP hD hS hl
      exact lp111 _ 0 (fun _ => 0) _ _ _ (Nat.zero_le _) (fun i hi => absurd hi (Nat.not_lt_zero _)) (Nat.lt_succ_self _) hP hD hS hl
    · have chi : 16 < sh := z_nle c12_
      refine lv_bipush (v := (nI 16)) hx hb zd_M_init_100 (by decide) ?_
      refine lv_goto (tgt := 106) hx hb zd_M_init_102 (by decide) ?_
      refine z_topi (y := nI (zcp sh)) (zcp_hi clo chi) ?_
      refine va_putF (D := (dC, dI)) (ci := 3) (v := .int (nI (zcp sh))) (ty := .int) (C := zR_M) (T := zF_M) (N := 16) hx hb htz zi_M zt_M zt_M_ok zn_M hown hK hP hD hS 0 rfl rfl 1 (by decide) (htz _ zq_460) (fun _ h9 => h9) rfl hin rfl (by decide +kernel) rfl rfl (Nat.le_of_ble_eq_true rfl) zd_M_init_106 (fun H locs hP hD hS => ?_)
      have hP : va_P (dC, dI) zcl [(md, .inr (3, [.int (nI 0), .int (nI (zcp sh)), .ref q1_, .ref q2_, .ref q3_, .ref q4_, .int (nI 0), .ref q5_, .ref q6_, .ref q7_, .ref q8_, .ref q9_, .ref q10_, .int (nI 0), .int (nI 0), .int (nI 0)])), (q1_, .inl (cI, 16, .inl (fun _ => 0))), (q2_, .inl (cI, 16, .inl (fun _ => 0))), (q3_, .inl (cJ, 16, .inr (.inl (fun _ => 0)))), (q4_, .inl (cZ, 16, .inl (fun _ => 0))), (q5_, .inl (cI, 16, .inl (fun _ => 0))), (q6_, .inl (cI, 16, .inl (fun _ => 0))), (q7_, .inl (cI, 16, .inl (fun _ => 0))), (q8_, .inl (cI, 16, .inl (fun _ => 0))), (q9_, .inl (cI, 16, .inl (fun _ => 0))), (q10_, .inl (cI, 16, .inl (fun _ => 0)))] H := hP
      have hD : va_D A [(md, .inr (3, [.int (nI 0), .int (nI (zcp sh)), .ref q1_, .ref q2_, .ref q3_, .ref q4_, .int (nI 0), .ref q5_, .ref q6_, .ref q7_, .ref q8_, .ref q9_, .ref q10_, .int (nI 0), .int (nI 0), .int (nI 0)])), (q1_, .inl (cI, 16, .inl (fun _ => 0))), (q2_, .inl (cI, 16, .inl (fun _ => 0))), (q3_, .inl (cJ, 16, .inr (.inl (fun _ => 0)))), (q4_, .inl (cZ, 16, .inl (fun _ => 0))), (q5_, .inl (cI, 16, .inl (fun _ => 0))), (q6_, .inl (cI, 16, .inl (fun _ => 0))), (q7_, .inl (cI, 16, .inl (fun _ => 0))), (q8_, .inl (cI, 16, .inl (fun _ => 0))), (q9_, .inl (cI, 16, .inl (fun _ => 0))), (q10_, .inl (cI, 16, .inl (fun _ => 0)))] := hD
      refine lv_iconst (v := (nI 0)) hx hb zd_M_init_109 (by decide) ?_
      refine lv_istore_n (lv' := [(2, .int (nI 0)), (0, .ref md), (1, .int sh)]) hx hb zd_M_init_110 rfl hl (by decide) rfl (fun ls hl => ?_)
      have lp111 : ∀ (fuel : Nat) (k : Nat) (f9 : ZA) (H : Heap) (locs : List Loc) (ls : Array Slot), (k ≤ 16) → (∀ i, i < k → f9 i = nI 1) → 16 - k < fuel → va_P (dC, dI) zcl [(md, .inr (3, [.int (nI 0), .int (nI (zcp sh)), .ref q1_, .ref q2_, .ref q3_, .ref q4_, .int (nI 0), .ref q5_, .ref q6_, .ref q7_, .ref q8_, .ref q9_, .ref q10_, .int (nI 0), .int (nI 0), .int (nI 0)])), (q1_, .inl (cI, 16, .inl f9)), (q2_, .inl (cI, 16, .inl (fun _ => 0))), (q3_, .inl (cJ, 16, .inr (.inl (fun _ => 0)))), (q4_, .inl (cZ, 16, .inl (fun _ => 0))), (q5_, .inl (cI, 16, .inl (fun _ => 0))), (q6_, .inl (cI, 16, .inl (fun _ => 0))), (q7_, .inl (cI, 16, .inl (fun _ => 0))), (q8_, .inl (cI, 16, .inl (fun _ => 0))), (q9_, .inl (cI, 16, .inl (fun _ => 0))), (q10_, .inl (cI, 16, .inl (fun _ => 0)))] H → va_D A [(md, .inr (3, [.int (nI 0), .int (nI (zcp sh)), .ref q1_, .ref q2_, .ref q3_, .ref q4_, .int (nI 0), .ref q5_, .ref q6_, .ref q7_, .ref q8_, .ref q9_, .ref q10_, .int (nI 0), .int (nI 0), .int (nI 0)])), (q1_, .inl (cI, 16, .inl f9)), (q2_, .inl (cI, 16, .inl (fun _ => 0))), (q3_, .inl (cJ, 16, .inr (.inl (fun _ => 0)))), (q4_, .inl (cZ, 16, .inl (fun _ => 0))), (q5_, .inl (cI, 16, .inl (fun _ => 0))), (q6_, .inl (cI, 16, .inl (fun _ => 0))), (q7_, .inl (cI, 16, .inl (fun _ => 0))), (q8_, .inl (cI, 16, .inl (fun _ => 0))), (q9_, .inl (cI, 16, .inl (fun _ => 0))), (q10_, .inl (cI, 16, .inl (fun _ => 0)))] → va_S A s.heap H locs → lv_has ls 3 [(2, .int (nI k)), (0, .ref md), (1, .int sh)] → W p l e ({ frames := 1, cells := 10, slots := 160, locals := 12 } : Room) s m [.ref md, .int sh].toArray below meth c H locs 10 160 (MQ below (va_Qv (fun (u : va_W) => ∃ (bw : Nat) (bf : Nat) (bv : Nat) (bz : Nat) (bsp : Nat) (bdt : Nat) (bdr : Nat) (bhd : Nat) (bmv : Nat) (bod : Nat), u = [(md, .inr (3, [.int (nI 0), .int (nI (zcp sh)), .ref bw, .ref bf, .ref bv, .ref bz, .int (nI 0), .ref bsp, .ref bdt, .ref bdr, .ref bhd, .ref bmv, .ref bod, .int (nI 0), .int (nI 0), .int (nI 0)])), (bw, .inl (cI, 16, .inl (fun _ => nI 1))), (bf, .inl (cI, 16, .inl (fun _ => 0))), (bv, .inl (cJ, 16, .inr (.inl (fun _ => 0)))), (bz, .inl (cZ, 16, .inl (fun _ => 0))), (bsp, .inl (cI, 16, .inl (fun _ => 0))), (bdt, .inl (cI, 16, .inl (fun _ => 0))), (bdr, .inl (cI, 16, .inl (fun _ => 0))), (bhd, .inl (cI, 16, .inl (fun _ => 0))), (bmv, .inl (cI, 16, .inl (fun _ => 0))), (bod, .inl (cI, 16, .inl (fun _ => 0)))]) (zAt (dC, dI) zcl [(cI, .int), (cJ, .long), (cZ, .boolean)] A) A) [.ref md, .int sh].toArray s 10 160 A) (F0 m 111 ls []) := by
        intro fuel
        induction fuel with
        | zero => intro k f9 H locs ls hk hz hf; exact absurd hf (Nat.not_lt_zero _)
        | succ fuel ih =>
          intro k f9 H locs ls hk hz hf hP hD hS hl
          refine lv_iload_n hx hb zd_M_init_111 rfl (lv_at hl 0 rfl) ?_
          refine lv_bipush (v := (nI 16)) hx hb zd_M_init_112 (by decide) ?_
          refine lv_icmp_ge (tgt := 130) hx hb zd_M_init_114 (by decide) (fun c14_ => ?_) (fun c14_ => ?_)
          · have hk2 : k = 16 := Nat.le_antisymm hk (Nat.le_of_not_lt (fun h => nI_ge h (by decide) c14_))
            subst hk2
            have hP := z_swapP (fun _ => nI 1) (i := 1) rfl hz hP
            have hD := z_swapD (.inl (cI, 16, .inl (fun _ => nI 1))) (i := 1) rfl hD
            have hP : va_P (dC, dI) zcl [(md, .inr (3, [.int (nI 0), .int (nI (zcp sh)), .ref q1_, .ref q2_, .ref q3_, .ref q4_, .int (nI 0), .ref q5_, .ref q6_, .ref q7_, .ref q8_, .ref q9_, .ref q10_, .int (nI 0), .int (nI 0), .int (nI 0)])), (q1_, .inl (cI, 16, .inl (fun _ => nI 1))), (q2_, .inl (cI, 16, .inl (fun _ => 0))), (q3_, .inl (cJ, 16, .inr (.inl (fun _ => 0)))), (q4_, .inl (cZ, 16, .inl (fun _ => 0))), (q5_, .inl (cI, 16, .inl (fun _ => 0))), (q6_, .inl (cI, 16, .inl (fun _ => 0))), (q7_, .inl (cI, 16, .inl (fun _ => 0))), (q8_, .inl (cI, 16, .inl (fun _ => 0))), (q9_, .inl (cI, 16, .inl (fun _ => 0))), (q10_, .inl (cI, 16, .inl (fun _ => 0)))] H := hP
            have hD : va_D A [(md, .inr (3, [.int (nI 0), .int (nI (zcp sh)), .ref q1_, .ref q2_, .ref q3_, .ref q4_, .int (nI 0), .ref q5_, .ref q6_, .ref q7_, .ref q8_, .ref q9_, .ref q10_, .int (nI 0), .int (nI 0), .int (nI 0)])), (q1_, .inl (cI, 16, .inl (fun _ => nI 1))), (q2_, .inl (cI, 16, .inl (fun _ => 0))), (q3_, .inl (cJ, 16, .inr (.inl (fun _ => 0)))), (q4_, .inl (cZ, 16, .inl (fun _ => 0))), (q5_, .inl (cI, 16, .inl (fun _ => 0))), (q6_, .inl (cI, 16, .inl (fun _ => 0))), (q7_, .inl (cI, 16, .inl (fun _ => 0))), (q8_, .inl (cI, 16, .inl (fun _ => 0))), (q9_, .inl (cI, 16, .inl (fun _ => 0))), (q10_, .inl (cI, 16, .inl (fun _ => 0)))] := hD
            exact z_vret hx hb hr hlocks hP hK hD hS zd_M_init_130 (by decide) (by decide) ⟨_, _, _, _, _, _, _, _, _, _, rfl⟩
          · have hk2 : k < 16 := Nat.lt_of_not_le (fun h => c14_ (nI_le h (by omega)))
            refine lv_aload_n hx hb zd_M_init_117 rfl (lv_at hl 1 rfl) ?_
            refine va_get (D := (dC, dI)) (ci := 3) (v := .ref q1_) (C := zR_M) (T := zF_M) (N := 16) hx hb htz zi_M hown hK hP 0 rfl rfl 2 (by decide) (htz _ zq_461) (fun _ h9 => h9) rfl zd_M_init_118 ?_
            refine lv_iload_n hx hb zd_M_init_121 rfl (lv_at hl 0 rfl) ?_
            refine lv_iconst (v := (nI 1)) hx hb zd_M_init_122 (by decide) ?_
            refine z_iast hx hb hK hP hD hS 1 0 rfl rfl (j := k) (by omega) (by decide) zd_M_init_123 (fun H locs hP hD hS => ?_)
            have hP : va_P (dC, dI) zcl [(md, .inr (3, [.int (nI 0), .int (nI (zcp sh)), .ref q1_, .ref q2_, .ref q3_, .ref q4_, .int (nI 0), .ref q5_, .ref q6_, .ref q7_, .ref q8_, .ref q9_, .ref q10_, .int (nI 0), .int (nI 0), .int (nI 0)])), (q1_, .inl (cI, 16, .inl (upd f9 k (nI 1)))), (q2_, .inl (cI, 16, .inl (fun _ => 0))), (q3_, .inl (cJ, 16, .inr (.inl (fun _ => 0)))), (q4_, .inl (cZ, 16, .inl (fun _ => 0))), (q5_, .inl (cI, 16, .inl (fun _ => 0))), (q6_, .inl (cI, 16, .inl (fun _ => 0))), (q7_, .inl (cI, 16, .inl (fun _ => 0))), (q8_, .inl (cI, 16, .inl (fun _ => 0))), (q9_, .inl (cI, 16, .inl (fun _ => 0))), (q10_, .inl (cI, 16, .inl (fun _ => 0)))] H := hP
            have hD : va_D A [(md, .inr (3, [.int (nI 0), .int (nI (zcp sh)), .ref q1_, .ref q2_, .ref q3_, .ref q4_, .int (nI 0), .ref q5_, .ref q6_, .ref q7_, .ref q8_, .ref q9_, .ref q10_, .int (nI 0), .int (nI 0), .int (nI 0)])), (q1_, .inl (cI, 16, .inl (upd f9 k (nI 1)))), (q2_, .inl (cI, 16, .inl (fun _ => 0))), (q3_, .inl (cJ, 16, .inr (.inl (fun _ => 0)))), (q4_, .inl (cZ, 16, .inl (fun _ => 0))), (q5_, .inl (cI, 16, .inl (fun _ => 0))), (q6_, .inl (cI, 16, .inl (fun _ => 0))), (q7_, .inl (cI, 16, .inl (fun _ => 0))), (q8_, .inl (cI, 16, .inl (fun _ => 0))), (q9_, .inl (cI, 16, .inl (fun _ => 0))), (q10_, .inl (cI, 16, .inl (fun _ => 0)))] := hD
            refine lv_iinc (v := (nI (k + 1))) (lv' := [(2, .int (nI (k + 1))), (0, .ref md), (1, .int sh)]) hx hb zd_M_init_124 hl (k := 0) rfl (nI_1 k) (by decide) rfl (fun ls hl => ?_)
            refine lv_goto (tgt := 111) hx hb zd_M_init_127 (by decide) ?_
            exact ih (k + 1) (upd f9 k (nI 1)) _ _ _ (by omega) (z_fillstep hz) (by omega) hP hD hS hl
      exact lp111 _ 0 (fun _ => 0) _ _ _ (Nat.zero_le _) (fun i hi => absurd hi (Nat.not_lt_zero _)) (Nat.lt_succ_self _) hP hD hS hl
  · have clo : sh < 1 := z_nle c11_
    refine lv_iconst (v := (nI 1)) hx hb zd_M_init_90 (by decide) ?_
    refine lv_goto (tgt := 106) hx hb zd_M_init_91 (by decide) ?_
    refine z_topi (y := nI (zcp sh)) (zcp_lo clo) ?_
    refine va_putF (D := (dC, dI)) (ci := 3) (v := .int (nI (zcp sh))) (ty := .int) (C := zR_M) (T := zF_M) (N := 16) hx hb htz zi_M zt_M zt_M_ok zn_M hown hK hP hD hS 0 rfl rfl 1 (by decide) (htz _ zq_460) (fun _ h9 => h9) rfl hin rfl (by decide +kernel) rfl rfl (Nat.le_of_ble_eq_true rfl) zd_M_init_106 (fun H locs hP hD hS => ?_)
    have hP : va_P (dC, dI) zcl [(md, .inr (3, [.int (nI 0), .int (nI (zcp sh)), .ref q1_, .ref q2_, .ref q3_, .ref q4_, .int (nI 0), .ref q5_, .ref q6_, .ref q7_, .ref q8_, .ref q9_, .ref q10_, .int (nI 0), .int (nI 0), .int (nI 0)])), (q1_, .inl (cI, 16, .inl (fun _ => 0))), (q2_, .inl (cI, 16, .inl (fun _ => 0))), (q3_, .inl (cJ, 16, .inr (.inl (fun _ => 0)))), (q4_, .inl (cZ, 16, .inl (fun _ => 0))), (q5_, .inl (cI, 16, .inl (fun _ => 0))), (q6_, .inl (cI, 16, .inl (fun _ => 0))), (q7_, .inl (cI, 16, .inl (fun _ => 0))), (q8_, .inl (cI, 16, .inl (fun _ => 0))), (q9_, .inl (cI, 16, .inl (fun _ => 0))), (q10_, .inl (cI, 16, .inl (fun _ => 0)))] H := hP
    have hD : va_D A [(md, .inr (3, [.int (nI 0), .int (nI (zcp sh)), .ref q1_, .ref q2_, .ref q3_, .ref q4_, .int (nI 0), .ref q5_, .ref q6_, .ref q7_, .ref q8_, .ref q9_, .ref q10_, .int (nI 0), .int (nI 0), .int (nI 0)])), (q1_, .inl (cI, 16, .inl (fun _ => 0))), (q2_, .inl (cI, 16, .inl (fun _ => 0))), (q3_, .inl (cJ, 16, .inr (.inl (fun _ => 0)))), (q4_, .inl (cZ, 16, .inl (fun _ => 0))), (q5_, .inl (cI, 16, .inl (fun _ => 0))), (q6_, .inl (cI, 16, .inl (fun _ => 0))), (q7_, .inl (cI, 16, .inl (fun _ => 0))), (q8_, .inl (cI, 16, .inl (fun _ => 0))), (q9_, .inl (cI, 16, .inl (fun _ => 0))), (q10_, .inl (cI, 16, .inl (fun _ => 0)))] := hD
    refine lv_iconst (v := (nI 0)) hx hb zd_M_init_109 (by decide) ?_
    refine lv_istore_n (lv' := [(2, .int (nI 0)), (0, .ref md), (1, .int sh)]) hx hb zd_M_init_110 rfl hl (by decide) rfl (fun ls hl => ?_)
    have lp111 : ∀ (fuel : Nat) (k : Nat) (f9 : ZA) (H : Heap) (locs : List Loc) (ls : Array Slot), (k ≤ 16) → (∀ i, i < k → f9 i = nI 1) → 16 - k < fuel → va_P (dC, dI) zcl [(md, .inr (3, [.int (nI 0), .int (nI (zcp sh)), .ref q1_, .ref q2_, .ref q3_, .ref q4_, .int (nI 0), .ref q5_, .ref q6_, .ref q7_, .ref q8_, .ref q9_, .ref q10_, .int (nI 0), .int (nI 0), .int (nI 0)])), (q1_, .inl (cI, 16, .inl f9)), (q2_, .inl (cI, 16, .inl (fun _ => 0))), (q3_, .inl (cJ, 16, .inr (.inl (fun _ => 0)))), (q4_, .inl (cZ, 16, .inl (fun _ => 0))), (q5_, .inl (cI, 16, .inl (fun _ => 0))), (q6_, .inl (cI, 16, .inl (fun _ => 0))), (q7_, .inl (cI, 16, .inl (fun _ => 0))), (q8_, .inl (cI, 16, .inl (fun _ => 0))), (q9_, .inl (cI, 16, .inl (fun _ => 0))), (q10_, .inl (cI, 16, .inl (fun _ => 0)))] H → va_D A [(md, .inr (3, [.int (nI 0), .int (nI (zcp sh)), .ref q1_, .ref q2_, .ref q3_, .ref q4_, .int (nI 0), .ref q5_, .ref q6_, .ref q7_, .ref q8_, .ref q9_, .ref q10_, .int (nI 0), .int (nI 0), .int (nI 0)])), (q1_, .inl (cI, 16, .inl f9)), (q2_, .inl (cI, 16, .inl (fun _ => 0))), (q3_, .inl (cJ, 16, .inr (.inl (fun _ => 0)))), (q4_, .inl (cZ, 16, .inl (fun _ => 0))), (q5_, .inl (cI, 16, .inl (fun _ => 0))), (q6_, .inl (cI, 16, .inl (fun _ => 0))), (q7_, .inl (cI, 16, .inl (fun _ => 0))), (q8_, .inl (cI, 16, .inl (fun _ => 0))), (q9_, .inl (cI, 16, .inl (fun _ => 0))), (q10_, .inl (cI, 16, .inl (fun _ => 0)))] → va_S A s.heap H locs → lv_has ls 3 [(2, .int (nI k)), (0, .ref md), (1, .int sh)] → W p l e ({ frames := 1, cells := 10, slots := 160, locals := 12 } : Room) s m [.ref md, .int sh].toArray below meth c H locs 10 160 (MQ below (va_Qv (fun (u : va_W) => ∃ (bw : Nat) (bf : Nat) (bv : Nat) (bz : Nat) (bsp : Nat) (bdt : Nat) (bdr : Nat) (bhd : Nat) (bmv : Nat) (bod : Nat), u = [(md, .inr (3, [.int (nI 0), .int (nI (zcp sh)), .ref bw, .ref bf, .ref bv, .ref bz, .int (nI 0), .ref bsp, .ref bdt, .ref bdr, .ref bhd, .ref bmv, .ref bod, .int (nI 0), .int (nI 0), .int (nI 0)])), (bw, .inl (cI, 16, .inl (fun _ => nI 1))), (bf, .inl (cI, 16, .inl (fun _ => 0))), (bv, .inl (cJ, 16, .inr (.inl (fun _ => 0)))), (bz, .inl (cZ, 16, .inl (fun _ => 0))), (bsp, .inl (cI, 16, .inl (fun _ => 0))), (bdt, .inl (cI, 16, .inl (fun _ => 0))), (bdr, .inl (cI, 16, .inl (fun _ => 0))), (bhd, .inl (cI, 16, .inl (fun _ => 0))), (bmv, .inl (cI, 16, .inl (fun _ => 0))), (bod, .inl (cI, 16, .inl (fun _ => 0)))]) (zAt (dC, dI) zcl [(cI, .int), (cJ, .long), (cZ, .boolean)] A) A) [.ref md, .int sh].toArray s 10 160 A) (F0 m 111 ls []) := by
      intro fuel
      induction fuel with
      | zero => intro k f9 H locs ls hk hz hf; exact absurd hf (Nat.not_lt_zero _)
      | succ fuel ih =>
        intro k f9 H locs ls hk hz hf hP hD hS hl
        refine lv_iload_n hx hb zd_M_init_111 rfl (lv_at hl 0 rfl) ?_
        refine lv_bipush (v := (nI 16)) hx hb zd_M_init_112 (by decide) ?_
        refine lv_icmp_ge (tgt := 130) hx hb zd_M_init_114 (by decide) (fun c15_ => ?_) (fun c15_ => ?_)
        · have hk2 : k = 16 := Nat.le_antisymm hk (Nat.le_of_not_lt (fun h => nI_ge h (by decide) c15_))
          subst hk2
          have hP := z_swapP (fun _ => nI 1) (i := 1) rfl hz hP
          have hD := z_swapD (.inl (cI, 16, .inl (fun _ => nI 1))) (i := 1) rfl hD
          have hP : va_P (dC, dI) zcl [(md, .inr (3, [.int (nI 0), .int (nI (zcp sh)), .ref q1_, .ref q2_, .ref q3_, .ref q4_, .int (nI 0), .ref q5_, .ref q6_, .ref q7_, .ref q8_, .ref q9_, .ref q10_, .int (nI 0), .int (nI 0), .int (nI 0)])), (q1_, .inl (cI, 16, .inl (fun _ => nI 1))), (q2_, .inl (cI, 16, .inl (fun _ => 0))), (q3_, .inl (cJ, 16, .inr (.inl (fun _ => 0)))), (q4_, .inl (cZ, 16, .inl (fun _ => 0))), (q5_, .inl (cI, 16, .inl (fun _ => 0))), (q6_, .inl (cI, 16, .inl (fun _ => 0))), (q7_, .inl (cI, 16, .inl (fun _ => 0))), (q8_, .inl (cI, 16, .inl (fun _ => 0))), (q9_, .inl (cI, 16, .inl (fun _ => 0))), (q10_, .inl (cI, 16, .inl (fun _ => 0)))] H := hP
          have hD : va_D A [(md, .inr (3, [.int (nI 0), .int (nI (zcp sh)), .ref q1_, .ref q2_, .ref q3_, .ref q4_, .int (nI 0), .ref q5_, .ref q6_, .ref q7_, .ref q8_, .ref q9_, .ref q10_, .int (nI 0), .int (nI 0), .int (nI 0)])), (q1_, .inl (cI, 16, .inl (fun _ => nI 1))), (q2_, .inl (cI, 16, .inl (fun _ => 0))), (q3_, .inl (cJ, 16, .inr (.inl (fun _ => 0)))), (q4_, .inl (cZ, 16, .inl (fun _ => 0))), (q5_, .inl (cI, 16, .inl (fun _ => 0))), (q6_, .inl (cI, 16, .inl (fun _ => 0))), (q7_, .inl (cI, 16, .inl (fun _ => 0))), (q8_, .inl (cI, 16, .inl (fun _ => 0))), (q9_, .inl (cI, 16, .inl (fun _ => 0))), (q10_, .inl (cI, 16, .inl (fun _ => 0)))] := hD
          exact z_vret hx hb hr hlocks hP hK hD hS zd_M_init_130 (by decide) (by decide) ⟨_, _, _, _, _, _, _, _, _, _, rfl⟩
        · have hk2 : k < 16 := Nat.lt_of_not_le (fun h => c15_ (nI_le h (by omega)))
          refine lv_aload_n hx hb zd_M_init_117 rfl (lv_at hl 1 rfl) ?_
          refine va_get (D := (dC, dI)) (ci := 3) (v := .ref q1_) (C := zR_M) (T := zF_M) (N := 16) hx hb htz zi_M hown hK hP 0 rfl rfl 2 (by decide) (htz _ zq_461) (fun _ h9 => h9) rfl zd_M_init_118 ?_
          refine lv_iload_n hx hb zd_M_init_121 rfl (lv_at hl 0 rfl) ?_
          refine lv_iconst (v := (nI 1)) hx hb zd_M_init_122 (by decide) ?_
          refine z_iast hx hb hK hP hD hS 1 0 rfl rfl (j := k) (by omega) (by decide) zd_M_init_123 (fun H locs hP hD hS => ?_)
          have hP : va_P (dC, dI) zcl [(md, .inr (3, [.int (nI 0), .int (nI (zcp sh)), .ref q1_, .ref q2_, .ref q3_, .ref q4_, .int (nI 0), .ref q5_, .ref q6_, .ref q7_, .ref q8_, .ref q9_, .ref q10_, .int (nI 0), .int (nI 0), .int (nI 0)])), (q1_, .inl (cI, 16, .inl (upd f9 k (nI 1)))), (q2_, .inl (cI, 16, .inl (fun _ => 0))), (q3_, .inl (cJ, 16, .inr (.inl (fun _ => 0)))), (q4_, .inl (cZ, 16, .inl (fun _ => 0))), (q5_, .inl (cI, 16, .inl (fun _ => 0))), (q6_, .inl (cI, 16, .inl (fun _ => 0))), (q7_, .inl (cI, 16, .inl (fun _ => 0))), (q8_, .inl (cI, 16, .inl (fun _ => 0))), (q9_, .inl (cI, 16, .inl (fun _ => 0))), (q10_, .inl (cI, 16, .inl (fun _ => 0)))] H := hP
          have hD : va_D A [(md, .inr (3, [.int (nI 0), .int (nI (zcp sh)), .ref q1_, .ref q2_, .ref q3_, .ref q4_, .int (nI 0), .ref q5_, .ref q6_, .ref q7_, .ref q8_, .ref q9_, .ref q10_, .int (nI 0), .int (nI 0), .int (nI 0)])), (q1_, .inl (cI, 16, .inl (upd f9 k (nI 1)))), (q2_, .inl (cI, 16, .inl (fun _ => 0))), (q3_, .inl (cJ, 16, .inr (.inl (fun _ => 0)))), (q4_, .inl (cZ, 16, .inl (fun _ => 0))), (q5_, .inl (cI, 16, .inl (fun _ => 0))), (q6_, .inl (cI, 16, .inl (fun _ => 0))), (q7_, .inl (cI, 16, .inl (fun _ => 0))), (q8_, .inl (cI, 16, .inl (fun _ => 0))), (q9_, .inl (cI, 16, .inl (fun _ => 0))), (q10_, .inl (cI, 16, .inl (fun _ => 0)))] := hD
          refine lv_iinc (v := (nI (k + 1))) (lv' := [(2, .int (nI (k + 1))), (0, .ref md), (1, .int sh)]) hx hb zd_M_init_124 hl (k := 0) rfl (nI_1 k) (by decide) rfl (fun ls hl => ?_)
          refine lv_goto (tgt := 111) hx hb zd_M_init_127 (by decide) ?_
          exact ih (k + 1) (upd f9 k (nI 1)) _ _ _ (by omega) (z_fillstep hz) (by omega) hP hD hS hl
    exact lp111 _ 0 (fun _ => 0) _ _ _ (Nat.zero_le _) (fun i hi => absurd hi (Nat.not_lt_zero _)) (Nat.lt_succ_self _) hP hD hS hl
