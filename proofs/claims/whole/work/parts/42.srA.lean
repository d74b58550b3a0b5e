set_option maxHeartbeats 4000000 in
set_option maxRecDepth 100000 in
/--  -/
theorem k_Sr_needKnown (l : Launch) (dC : Nat → ClassId) (dI : Nat → Nat → Nat) (cI cJ cZ : ClassId) (sx : Nat) (hp : Nat) (ra : Nat) (kn : Nat) (hl9 : l.stackTraces = false) (hkn : kn ≤ 1) (sz : Nat) : zXv l zy_S_needKnown zw_S_needKnown ({ frames := 6, cells := 1, slots := 6, locals := 94 }) [.ref sx] (dC, dI) zcl [(cI, .int), (cJ, .long), (cZ, .boolean)] [(sx, .inr (2, [.ref hp, .ref ra, .int (nI kn)]))] sz (fun (u : va_W) => u = [(sx, .inr (2, [.ref hp, .ref ra, .int (nI kn)]))] ∧ ¬ kn = 0) (fun (E : String) (u : va_W) => E = "java/lang/IllegalStateException" ∧ u = [(sx, .inr (2, [.ref hp, .ref ra, .int (nI kn)]))] ∧ kn = 0) := by
  refine z_ofXv (cc := zc_S_needKnown) (maxL := 1) (ret := none) (by decide) rfl (Nat.le_of_ble_eq_true rfl) ?_
  intro p e s m below meth c A ls hx hb hr hml hown htz hlocks hin hA hP hK hD hS hl hZ hno
  have hown : s.vm.findClass zR_S = some m.cls := hown
  have hl : lv_has ls 1 [(0, .ref sx)] := hl
  refine lv_aload_n hx hb zd_S_needKnown_0 rfl (lv_at hl 0 rfl) ?_
  refine va_get (D := (dC, dI)) (ci := 2) (v := .int (nI kn)) (C := zR_S) (T := zF_S) (N := 3) hx hb htz zi_S hown hK hP 0 rfl rfl 2 (by decide) (htz _ zq_112) (fun _ h9 => h9) rfl zd_S_needKnown_1 ?_
  refine lv_if_ne (tgt := 17) hx hb zd_S_needKnown_4 (by decide) (fun c1_ => ?_) (fun c1_ => ?_)
  · have hk9 : ¬ kn = 0 := fun h => c1_ (by rw [h]; rfl)
    exact vx_ret (z_vret hx hb hr hlocks hP hK hD hS zd_S_needKnown_17 (by decide) (by decide) ⟨rfl, hk9⟩)
  · have hk9 : kn = 0 := (nI_eq (b := 0) (by omega) (by decide)).mp c1_
    exact z_throw (own := zR_S) (cls := "java/lang/IllegalStateException") (text := "nothing is known") (is := 121) hx hb hl9 hown htz hZ (by decide +kernel) zq_345 zq_12 rfl (by decide) zat_123.1 zat_123.2.1 (zat_123.2.2 _ _ rfl rfl) hP hK hD hS (hl.1.trans hml.symm) zd_S_needKnown_7 zd_S_needKnown_10 zd_S_needKnown_11 zd_S_needKnown_13 zd_S_needKnown_16 hno (by decide) (Nat.le_of_ble_eq_true rfl) (by decide) (by decide) hlocks (by decide) (by decide) ⟨rfl, rfl, hk9⟩
set_option maxHeartbeats 4000000 in
set_option maxRecDepth 100000 in
/--  -/
theorem k_Sr_needShare (l : Launch) (dC : Nat → ClassId) (dI : Nat → Nat → Nat) (cI cJ cZ : ClassId) (sx : Nat) (hp : Nat) (ra : Nat) (kn : Nat) (aw : Nat) (av : Nat) (az : Nat) (af : Nat) (n : Nat) (sh : Int32) (hl9 : l.stackTraces = false) (hn : n ≤ 16) (sz : Nat) : zXv l zy_S_needShare zw_S_needShare ({ frames := 6, cells := 1, slots := 6, locals := 94 }) [.ref sx, .int sh] (dC, dI) zcl [(cI, .int), (cJ, .long), (cZ, .boolean)] [(sx, .inr (2, [.ref hp, .ref ra, .int (nI kn)])), (hp, .inr (0, [.int (nI n), .ref aw, .ref av, .ref az, .ref af]))] sz (fun (u : va_W) => ∃ (j : Nat), u = [(sx, .inr (2, [.ref hp, .ref ra, .int (nI kn)])), (hp, .inr (0, [.int (nI n), .ref aw, .ref av, .ref az, .ref af]))] ∧ j < n ∧ sh = nI j) (fun (E : String) (u : va_W) => E = "java/lang/IndexOutOfBoundsException" ∧ u = [(sx, .inr (2, [.ref hp, .ref ra, .int (nI kn)])), (hp, .inr (0, [.int (nI n), .ref aw, .ref av, .ref az, .ref af]))] ∧ (∀ j, j < n → sh ≠ nI j)) := by
  refine z_ofXv (cc := zc_S_needShare) (maxL := 2) (ret := none) (by decide) rfl (Nat.le_of_ble_eq_true rfl) ?_
  intro p e s m below meth c A ls hx hb hr hml hown htz hlocks hin hA hP hK hD hS hl hZ hno
  have hown : s.vm.findClass zR_S = some m.cls := hown
  have hl : lv_has ls 2 [(0, .ref sx), (1, .int sh)] := hl
  refine lv_aload_n hx hb zd_S_needShare_0 rfl (lv_at hl 0 rfl) ?_
  refine va_get (D := (dC, dI)) (ci := 2) (v := .ref hp) (C := zR_S) (T := zF_S) (N := 3) hx hb htz zi_S hown hK hP 0 rfl rfl 0 (by decide) (htz _ zq_110) (fun _ h9 => h9) rfl zd_S_needShare_1 ?_
  refine lv_iload_n hx hb zd_S_needShare_4 rfl (lv_at hl 1 rfl) ?_
  refine z_Vi (As := [.int sh]) (rest := []) (wc := [(hp, .inr (0, [.int (nI n), .ref aw, .ref av, .ref az, .ref af]))]) (wr := [(sx, .inr (2, [.ref hp, .ref ra, .int (nI kn)]))]) ⟨hx, hb, hml, hown, htz⟩ hK hP hD hS hA (k_Plan_has l dC dI cI cJ cZ hp aw av az af n sh (by first | assumption | omega) s.heap.size) (zcwV 1 htz zq_147 zq_144 zq_145 zq_146 zq_2 (by decide +kernel) ⟨Nat.le_of_ble_eq_true rfl, Nat.le_of_ble_eq_true rfl⟩) 1 0 rfl rfl [1] [0] rfl rfl rfl (by decide) rfl hl.1 rfl (Nat.le_of_ble_eq_true rfl) zd_S_needShare_5 ⟨Nat.le_of_ble_eq_true rfl, Nat.le_of_ble_eq_true rfl⟩ (fun r u H locs hw hP hD hS => ?_)
  rcases hw with ⟨j1_, rfl, rfl, hj2_, rfl⟩ | ⟨rfl, rfl, hno3_⟩
  · have hP : va_P (dC, dI) zcl [(sx, .inr (2, [.ref hp, .ref ra, .int (nI kn)])), (hp, .inr (0, [.int (nI n), .ref aw, .ref av, .ref az, .ref af]))] H := hP
    have hD : va_D A [(sx, .inr (2, [.ref hp, .ref ra, .int (nI kn)])), (hp, .inr (0, [.int (nI n), .ref aw, .ref av, .ref az, .ref af]))] := hD
    refine lv_if_ne (tgt := 21) hx hb zd_S_needShare_8 (by decide) (fun _ => ?_) (fun c4_ => absurd c4_ (by decide))
    exact vx_ret (z_vret hx hb hr hlocks hP hK hD hS zd_S_needShare_21 (by decide) (by decide) ⟨j1_, rfl, hj2_, rfl⟩)
  · have hP : va_P (dC, dI) zcl [(sx, .inr (2, [.ref hp, .ref ra, .int (nI kn)])), (hp, .inr (0, [.int (nI n), .ref aw, .ref av, .ref az, .ref af]))] H := hP
    have hD : va_D A [(sx, .inr (2, [.ref hp, .ref ra, .int (nI kn)])), (hp, .inr (0, [.int (nI n), .ref aw, .ref av, .ref az, .ref af]))] := hD
    refine lv_if_ne (tgt := 21) hx hb zd_S_needShare_8 (by decide) (fun c5_ => absurd (by decide) c5_) (fun _ => ?_)
    exact z_throw (own := zR_S) (cls := "java/lang/IndexOutOfBoundsException") (text := "no such share") (is := 127) hx hb hl9 hown htz hZ (by decide +kernel) zq_148 zq_10 rfl (by decide) zat_91.1 zat_91.2.1 (zat_91.2.2 _ _ rfl rfl) hP hK hD hS (hl.1.trans hml.symm) zd_S_needShare_11 zd_S_needShare_14 zd_S_needShare_15 zd_S_needShare_17 zd_S_needShare_20 hno (by decide) (Nat.le_of_ble_eq_true rfl) (by decide) (by decide) hlocks (by decide) (by decide) ⟨rfl, rfl, hno3_⟩
set_option maxHeartbeats 4000000 in
set_option maxRecDepth 100000 in
/--  -/
theorem k_Sr_forgetIf_1 (l : Launch) (dC : Nat → ClassId) (dI : Nat → Nat → Nat) (cI cJ cZ : ClassId) (sx : Nat) (hp : Nat) (ra : Nat) (kn : Nat)  (sz : Nat) : zMv l zy_S_forgetIf zw_S_forgetIf ({ frames := 0, cells := 0, slots := 0, locals := 0 }) [.ref sx, .int (nI 1)] (dC, dI) zcl [(cI, .int), (cJ, .long), (cZ, .boolean)] [(sx, .inr (2, [.ref hp, .ref ra, .int (nI kn)]))] sz (fun (u : va_W) => u = [(sx, .inr (2, [.ref hp, .ref ra, .int (nI 0)]))]) := by
  refine z_ofv (cc := zc_S_forgetIf) (maxL := 2) (ret := none) (by decide) rfl (Nat.le_of_ble_eq_true rfl) ?_
  intro p e s m below meth c A ls hx hb hr hml hown htz hlocks hin hA hP hK hD hS hl
  have hown : s.vm.findClass zR_S = some m.cls := hown
  have hl : lv_has ls 2 [(0, .ref sx), (1, .int (nI 1))] := hl
  refine lv_iload_n hx hb zd_S_forgetIf_0 rfl (lv_at hl 1 rfl) ?_
  refine lv_if_eq (tgt := 9) hx hb zd_S_forgetIf_1 (by decide) (fun c1_ => absurd c1_ (by decide)) (fun _ => ?_)
  refine lv_aload_n hx hb zd_S_forgetIf_4 rfl (lv_at hl 0 rfl) ?_
  refine lv_iconst (v := (nI 0)) hx hb zd_S_forgetIf_5 (by decide) ?_
  refine va_put (D := (dC, dI)) (ci := 2) (v := .int (nI 0)) (ty := .boolean) (C := zR_S) (T := zF_S) (N := 3) hx hb htz zi_S zt_S zt_S_ok zn_S hown hK hP hD hS 0 rfl rfl 2 (by decide) (htz _ zq_112) (fun _ h9 => h9) rfl (by decide +kernel) rfl rfl (Nat.le_of_ble_eq_true rfl) zd_S_forgetIf_6 (fun H locs hP hD hS => ?_)
  have hP : va_P (dC, dI) zcl [(sx, .inr (2, [.ref hp, .ref ra, .int (nI 0)]))] H := hP
  have hD : va_D A [(sx, .inr (2, [.ref hp, .ref ra, .int (nI 0)]))] := hD
  exact z_vret hx hb hr hlocks hP hK hD hS zd_S_forgetIf_9 (by decide) (by decide) rfl
set_option maxHeartbeats 4000000 in
set_option maxRecDepth 100000 in
/--  -/
theorem k_Sr_forgetIf_0 (l : Launch) (dC : Nat → ClassId) (dI : Nat → Nat → Nat) (cI cJ cZ : ClassId) (sx : Nat) (hp : Nat) (ra : Nat) (kn : Nat)  (sz : Nat) : zMv l zy_S_forgetIf zw_S_forgetIf ({ frames := 0, cells := 0, slots := 0, locals := 0 }) [.ref sx, .int (nI 0)] (dC, dI) zcl [(cI, .int), (cJ, .long), (cZ, .boolean)] [(sx, .inr (2, [.ref hp, .ref ra, .int (nI kn)]))] sz (fun (u : va_W) => u = [(sx, .inr (2, [.ref hp, .ref ra, .int (nI kn)]))]) := by
  refine z_ofv (cc := zc_S_forgetIf) (maxL := 2) (ret := none) (by decide) rfl (Nat.le_of_ble_eq_true rfl) ?_
  intro p e s m below meth c A ls hx hb hr hml hown htz hlocks hin hA hP hK hD hS hl
  have hown : s.vm.findClass zR_S = some m.cls := hown
  have hl : lv_has ls 2 [(0, .ref sx), (1, .int (nI 0))] := hl
  refine lv_iload_n hx hb zd_S_forgetIf_0 rfl (lv_at hl 1 rfl) ?_
  refine lv_if_eq (tgt := 9) hx hb zd_S_forgetIf_1 (by decide) (fun _ => ?_) (fun c1_ => absurd (by decide) c1_)
  exact z_vret hx hb hr hlocks hP hK hD hS zd_S_forgetIf_9 (by decide) (by decide) rfl
set_option maxHeartbeats 4000000 in
set_option maxRecDepth 100000 in
/--  -/
theorem k_Sr_value (l : Launch) (dC : Nat → ClassId) (dI : Nat → Nat → Nat) (cI cJ cZ : ClassId) (sx : Nat) (hp : Nat) (ra : Nat) (kn : Nat) (aw : Nat) (av : Nat) (az : Nat) (af : Nat) (n : Nat) (wk : Nat → Int32) (wo : Nat → Int64) (se : Nat → Int32) (sh : Int32) (w : Int32) (v : Int64) (b : Int32) (hl9 : l.stackTraces = false) (hn : n ≤ 16) (hkn : kn ≤ 1) (hbb : vp_nar .boolean b = b) (sz : Nat) : zXi l zy_S_value zw_S_value ({ frames := 7, cells := 2, slots := 12, locals := 115 }) [.ref sx, .int sh, .int w, .long v, .int b] (dC, dI) zcl [(cI, .int), (cJ, .long), (cZ, .boolean)] [(sx, .inr (2, [.ref hp, .ref ra, .int (nI kn)])), (hp, .inr (0, [.int (nI n), .ref aw, .ref av, .ref az, .ref af])), (aw, .inl (cI, 16, .inl wk)), (av, .inl (cJ, 16, .inr (.inl wo))), (az, .inl (cZ, 16, .inl se))] sz (fun (r : Int32) (u : va_W) => r = nI (zvo n wk wo se sh w v b) ∧ u = [(sx, .inr (2, [.ref hp, .ref ra, .int (nI (zk2 (zvo n wk wo se sh w v b) kn))])), (hp, .inr (0, [.int (nI n), .ref aw, .ref av, .ref az, .ref af])), (aw, .inl (cI, 16, .inl (zup (zvth n sh w) wk sh.toNatClampNeg w))), (av, .inl (cJ, 16, .inr (.inl (zupL (zvth n sh w) wo sh.toNatClampNeg v)))), (az, .inl (cZ, 16, .inl (zup (zvth n sh w) se sh.toNatClampNeg b)))] ∧ zvth n sh w = 0) (fun (E : String) (u : va_W) => (E = "java/lang/IndexOutOfBoundsException" ∧ u = [(sx, .inr (2, [.ref hp, .ref ra, .int (nI kn)])), (hp, .inr (0, [.int (nI n), .ref aw, .ref av, .ref az, .ref af])), (aw, .inl (cI, 16, .inl wk)), (av, .inl (cJ, 16, .inr (.inl wo))), (az, .inl (cZ, 16, .inl se))] ∧ zvth n sh w = 1) ∨ (E = "java/lang/IllegalArgumentException" ∧ u = [(sx, .inr (2, [.ref hp, .ref ra, .int (nI kn)])), (hp, .inr (0, [.int (nI n), .ref aw, .ref av, .ref az, .ref af])), (aw, .inl (cI, 16, .inl wk)), (av, .inl (cJ, 16, .inr (.inl wo))), (az, .inl (cZ, 16, .inl se))] ∧ zvth n sh w = 2)) := by
  refine z_ofXi (cc := zc_S_value) (maxL := 7) (ret := (some .boolean)) (by decide) rfl (Nat.le_of_ble_eq_true rfl) ?_
  intro p e s m below meth c A ls hx hb hr hml hown htz hlocks hin hA hP hK hD hS hl hZ hno
  have hown : s.vm.findClass zR_S = some m.cls := hown
  have hl : lv_has ls 7 [(0, .ref sx), (1, .int sh), (2, .int w), (3, .long v), (5, .int b)] := hl
  refine lv_aload_n hx hb zd_S_value_0 rfl (lv_at hl 0 rfl) ?_
  refine lv_iload_n hx hb zd_S_value_1 rfl (lv_at hl 1 rfl) ?_
  refine z_XVv (As := [.int sh]) (rest := []) (wc := [(sx, .inr (2, [.ref hp, .ref ra, .int (nI kn)])), (hp, .inr (0, [.int (nI n), .ref aw, .ref av, .ref az, .ref af]))]) (wr := [(aw, .inl (cI, 16, .inl wk)), (av, .inl (cJ, 16, .inr (.inl wo))), (az, .inl (cZ, 16, .inl se))]) ⟨hx, hb, hml, hown, htz⟩ hZ hK hP hD hS hA (k_Sr_needShare l dC dI cI cJ cZ sx hp ra kn aw av az af n sh (by first | assumption | omega) (by first | assumption | omega) s.heap.size) (zcwV 1 htz zq_143 zq_140 zq_142 zp_0 zq_1 (by decide +kernel) ⟨Nat.le_of_ble_eq_true rfl, Nat.le_of_ble_eq_true rfl⟩) 0 2 rfl rfl [0, 1] [2, 3, 4] rfl rfl rfl (by decide) rfl hl.1 rfl (Nat.le_of_ble_eq_true rfl) zd_S_value_2 ⟨Nat.le_of_ble_eq_true rfl, Nat.le_of_ble_eq_true rfl⟩ (fun E ce q9 u H locs hw hP hD hS hce hcv hcl => ?_) (fun u H locs hw hP hD hS => ?_)
  · obtain ⟨rfl, rfl, hno1_⟩ := hw
    have hP : va_P (dC, dI) zcl [(aw, .inl (cI, 16, .inl wk)), (av, .inl (cJ, 16, .inr (.inl wo))), (az, .inl (cZ, 16, .inl se)), (sx, .inr (2, [.ref hp, .ref ra, .int (nI kn)])), (hp, .inr (0, [.int (nI n), .ref aw, .ref av, .ref az, .ref af]))] H := hP
    have hD : va_D A [(aw, .inl (cI, 16, .inl wk)), (av, .inl (cJ, 16, .inr (.inl wo))), (az, .inl (cZ, 16, .inl se)), (sx, .inr (2, [.ref hp, .ref ra, .int (nI kn)])), (hp, .inr (0, [.int (nI n), .ref aw, .ref av, .ref az, .ref af]))] := hD
    have hP := hP.sub (ws' := [(sx, .inr (2, [.ref hp, .ref ra, .int (nI kn)])), (hp, .inr (0, [.int (nI n), .ref aw, .ref av, .ref az, .ref af])), (aw, .inl (cI, 16, .inl wk)), (av, .inl (cJ, 16, .inr (.inl wo))), (az, .inl (cZ, 16, .inl se))]) [3, 4, 0, 1, 2] rfl
    have hD := hD.sub (ws' := [(sx, .inr (2, [.ref hp, .ref ra, .int (nI kn)])), (hp, .inr (0, [.int (nI n), .ref aw, .ref av, .ref az, .ref af])), (aw, .inl (cI, 16, .inl wk)), (av, .inl (cJ, 16, .inr (.inl wo))), (az, .inl (cZ, 16, .inl se))]) [3, 4, 0, 1, 2] (by decide) rfl
    exact z_out hP hK hD hS hno hlocks hce hcv hcl (by decide) (by decide) (Or.inl ⟨rfl, rfl, zvth_1 (by omega) hno1_⟩)
  · obtain ⟨j2_, rfl, hj3_, rfl⟩ := hw
    have hP : va_P (dC, dI) zcl [(aw, .inl (cI, 16, .inl wk)), (av, .inl (cJ, 16, .inr (.inl wo))), (az, .inl (cZ, 16, .inl se)), (sx, .inr (2, [.ref hp, .ref ra, .int (nI kn)])), (hp, .inr (0, [.int (nI n), .ref aw, .ref av, .ref az, .ref af]))] H := hP
    have hD : va_D A [(aw, .inl (cI, 16, .inl wk)), (av, .inl (cJ, 16, .inr (.inl wo))), (az, .inl (cZ, 16, .inl se)), (sx, .inr (2, [.ref hp, .ref ra, .int (nI kn)])), (hp, .inr (0, [.int (nI n), .ref aw, .ref av, .ref az, .ref af]))] := hD
    refine lv_iload_n hx hb zd_S_value_5 rfl (lv_at hl 2 rfl) ?_
    refine lv_iconst (v := (nI 1)) hx hb zd_S_value_6 (by decide) ?_
    refine lv_icmp_lt (tgt := 16) hx hb zd_S_value_7 (by decide) (fun c4_ => ?_) (fun c4_ => ?_)
    · have hT : zvth n (nI j2_) w = 2 := zvth_2 (by omega) hj3_ (Or.inl c4_)
      have hP := hP.sub (ws' := [(sx, .inr (2, [.ref hp, .ref ra, .int (nI kn)])), (hp, .inr (0, [.int (nI n), .ref aw, .ref av, .ref az, .ref af])), (aw, .inl (cI, 16, .inl wk)), (av, .inl (cJ, 16, .inr (.inl wo))), (az, .inl (cZ, 16, .inl se))]) [3, 4, 0, 1, 2] rfl
      have hD := hD.sub (ws' := [(sx, .inr (2, [.ref hp, .ref ra, .int (nI kn)])), (hp, .inr (0, [.int (nI n), .ref aw, .ref av, .ref az, .ref af])), (aw, .inl (cI, 16, .inl wk)), (av, .inl (cJ, 16, .inr (.inl wo))), (az, .inl (cZ, 16, .inl se))]) [3, 4, 0, 1, 2] (by decide) rfl
      exact z_throw (own := zR_S) (cls := "java/lang/IllegalArgumentException") (text := "work is 1 to 100") (is := 36) hx hb hl9 hown htz hZ (by decide +kernel) zq_216 zq_11 rfl (by decide) zat_38.1 zat_38.2.1 (zat_38.2.2 _ _ rfl rfl) hP hK hD hS (hl.1.trans hml.symm) zd_S_value_16 zd_S_value_19 zd_S_value_20 zd_S_value_22 zd_S_value_25 hno (by decide) (Nat.le_of_ble_eq_true rfl) (by decide) (by decide) hlocks (by decide) (by decide) (Or.inr ⟨rfl, rfl, hT⟩)
    · have hlo := c4_
      refine lv_iload_n hx hb zd_S_value_10 rfl (lv_at hl 2 rfl) ?_
      refine lv_bipush (v := (nI 100)) hx hb zd_S_value_11 (by decide) ?_
      refine lv_icmp_le (tgt := 26) hx hb zd_S_value_13 (by decide) (fun c5_ => ?_) (fun c5_ => ?_)
      · have hT : zvth n (nI j2_) w = 0 := zvth_0 (by omega) hj3_ hlo (z_nlt c5_)
        refine lv_aload_n hx hb zd_S_value_26 rfl (lv_at hl 0 rfl) ?_
        refine va_get (D := (dC, dI)) (ci := 2) (v := .ref hp) (C := zR_S) (T := zF_S) (N := 3) hx hb htz zi_S hown hK hP 3 rfl rfl 0 (by decide) (htz _ zq_110) (fun _ h9 => h9) rfl zd_S_value_27 ?_
        refine lv_iload_n hx hb zd_S_value_30 rfl (lv_at hl 1 rfl) ?_
        refine lv_iload_n hx hb zd_S_value_31 rfl (lv_at hl 2 rfl) ?_
        refine lv_lload_n hx hb zd_S_value_32 rfl (lv_at hl 3 rfl) ?_
        refine lv_iload hx hb zd_S_value_33 (lv_at hl 4 rfl) ?_
        refine z_Vi (As := [.int (nI j2_), .int w, .long v, .int b]) (rest := []) (wc := [(hp, .inr (0, [.int (nI n), .ref aw, .ref av, .ref az, .ref af])), (aw, .inl (cI, 16, .inl wk)), (av, .inl (cJ, 16, .inr (.inl wo))), (az, .inl (cZ, 16, .inl se))]) (wr := [(sx, .inr (2, [.ref hp, .ref ra, .int (nI kn)]))]) ⟨hx, hb, hml, hown, htz⟩ hK hP hD hS hA (k_Plan_change_k l dC dI cI cJ cZ hp aw av az af n wk wo se j2_ w v b (by first | assumption | omega) (by first | assumption | omega) (by first | assumption | omega) H.size) (zcwV 4 htz zq_235 zq_232 zq_233 zq_234 zq_2 (by decide +kernel) ⟨Nat.le_of_ble_eq_true rfl, Nat.le_of_ble_eq_true rfl⟩) 4 0 rfl rfl [4, 0, 1, 2] [3] rfl rfl rfl (by decide) rfl hl.1 rfl (Nat.le_of_ble_eq_true rfl) zd_S_value_35 ⟨Nat.le_of_ble_eq_true rfl, Nat.le_of_ble_eq_true rfl⟩ (fun r u H locs hw hP hD hS => ?_)
        rcases hw with ⟨rfl, rfl, hc6_⟩ | ⟨rfl, rfl, hc7_⟩
        · have hP : va_P (dC, dI) zcl [(sx, .inr (2, [.ref hp, .ref ra, .int (nI kn)])), (hp, .inr (0, [.int (nI n), .ref aw, .ref av, .ref az, .ref af])), (aw, .inl (cI, 16, .inl (upd wk j2_ w))), (av, .inl (cJ, 16, .inr (.inl (vp_updL wo j2_ v)))), (az, .inl (cZ, 16, .inl (upd se j2_ b)))] H := hP
          have hD : va_D A [(sx, .inr (2, [.ref hp, .ref ra, .int (nI kn)])), (hp, .inr (0, [.int (nI n), .ref aw, .ref av, .ref az, .ref af])), (aw, .inl (cI, 16, .inl (upd wk j2_ w))), (av, .inl (cJ, 16, .inr (.inl (vp_updL wo j2_ v)))), (az, .inl (cZ, 16, .inl (upd se j2_ b)))] := hD
          have hO := zvo_1 (by omega) hT hc6_
          refine lv_istore (lv' := [(6, .int (nI 1)), (0, .ref sx), (1, .int (nI j2_)), (2, .int w), (3, .long v), (5, .int b)]) hx hb zd_S_value_38 hl (by decide) rfl (fun ls hl => ?_)
          refine lv_aload_n hx hb zd_S_value_40 rfl (lv_at hl 1 rfl) ?_
          refine lv_iload hx hb zd_S_value_41 (lv_at hl 0 rfl) ?_
          refine z_Vv (As := [.int (nI 1)]) (rest := []) (wc := [(sx, .inr (2, [.ref hp, .ref ra, .int (nI kn)]))]) (wr := [(hp, .inr (0, [.int (nI n), .ref aw, .ref av, .ref az, .ref af])), (aw, .inl (cI, 16, .inl (upd wk j2_ w))), (av, .inl (cJ, 16, .inr (.inl (vp_updL wo j2_ v)))), (az, .inl (cZ, 16, .inl (upd se j2_ b)))]) ⟨hx, hb, hml, hown, htz⟩ hK hP hD hS hA (k_Sr_forgetIf_1 l dC dI cI cJ cZ sx hp ra kn H.size) (zcwV 1 htz zq_240 zq_237 zq_239 zp_2 zq_1 (by decide +kernel) ⟨Nat.le_of_ble_eq_true rfl, Nat.le_of_ble_eq_true rfl⟩) 0 2 rfl rfl [0] [1, 2, 3, 4] rfl rfl rfl (by decide) rfl hl.1 rfl (Nat.le_of_ble_eq_true rfl) zd_S_value_43 ⟨Nat.le_of_ble_eq_true rfl, Nat.le_of_ble_eq_true rfl⟩ (fun u H locs hw hP hD hS => ?_)
          obtain rfl := hw
          have hP : va_P (dC, dI) zcl [(hp, .inr (0, [.int (nI n), .ref aw, .ref av, .ref az, .ref af])), (aw, .inl (cI, 16, .inl (upd wk j2_ w))), (av, .inl (cJ, 16, .inr (.inl (vp_updL wo j2_ v)))), (az, .inl (cZ, 16, .inl (upd se j2_ b))), (sx, .inr (2, [.ref hp, .ref ra, .int (nI 0)]))] H := hP
          have hD : va_D A [(hp, .inr (0, [.int (nI n), .ref aw, .ref av, .ref az, .ref af])), (aw, .inl (cI, 16, .inl (upd wk j2_ w))), (av, .inl (cJ, 16, .inr (.inl (vp_updL wo j2_ v)))), (az, .inl (cZ, 16, .inl (upd se j2_ b))), (sx, .inr (2, [.ref hp, .ref ra, .int (nI 0)]))] := hD
          refine lv_iload hx hb zd_S_value_46 (lv_at hl 0 rfl) ?_
          have hP := hP.sub (ws' := [(sx, .inr (2, [.ref hp, .ref ra, .int (nI 0)])), (hp, .inr (0, [.int (nI n), .ref aw, .ref av, .ref az, .ref af])), (aw, .inl (cI, 16, .inl (upd wk j2_ w))), (av, .inl (cJ, 16, .inr (.inl (vp_updL wo j2_ v)))), (az, .inl (cZ, 16, .inl (upd se j2_ b)))]) [4, 0, 1, 2, 3] rfl
          have hD := hD.sub (ws' := [(sx, .inr (2, [.ref hp, .ref ra, .int (nI 0)])), (hp, .inr (0, [.int (nI n), .ref aw, .ref av, .ref az, .ref af])), (aw, .inl (cI, 16, .inl (upd wk j2_ w))), (av, .inl (cJ, 16, .inr (.inl (vp_updL wo j2_ v)))), (az, .inl (cZ, 16, .inl (upd se j2_ b)))]) [4, 0, 1, 2, 3] (by decide) rfl
          exact vx_ret (z_zret hx hb hr hlocks hP hK hD hS zd_S_value_48 (by decide) (by decide) rfl ⟨by rw [hO], by rw [hO, hT, nI_clamp (by omega)]; first | done | rfl, hT⟩)
        · have hP : va_P (dC, dI) zcl [(sx, .inr (2, [.ref hp, .ref ra, .int (nI kn)])), (hp, .inr (0, [.int (nI n), .ref aw, .ref av, .ref az, .ref af])), (aw, .inl (cI, 16, .inl (upd wk j2_ w))), (av, .inl (cJ, 16, .inr (.inl (vp_updL wo j2_ v)))), (az, .inl (cZ, 16, .inl (upd se j2_ b)))] H := hP
          have hD : va_D A [(sx, .inr (2, [.ref hp, .ref ra, .int (nI kn)])), (hp, .inr (0, [.int (nI n), .ref aw, .ref av, .ref az, .ref af])), (aw, .inl (cI, 16, .inl (upd wk j2_ w))), (av, .inl (cJ, 16, .inr (.inl (vp_updL wo j2_ v)))), (az, .inl (cZ, 16, .inl (upd se j2_ b)))] := hD
          have hO : zvo n wk wo se (nI j2_) w v b = 0 := zvo_0 (by omega) hc7_
          refine lv_istore (lv' := [(6, .int (nI 0)), (0, .ref sx), (1, .int (nI j2_)), (2, .int w), (3, .long v), (5, .int b)]) hx hb zd_S_value_38 hl (by decide) rfl (fun ls hl => ?_)
          refine lv_aload_n hx hb zd_S_value_40 rfl (lv_at hl 1 rfl) ?_
          refine lv_iload hx hb zd_S_value_41 (lv_at hl 0 rfl) ?_
          refine z_Vv (As := [.int (nI 0)]) (rest := []) (wc := [(sx, .inr (2, [.ref hp, .ref ra, .int (nI kn)]))]) (wr := [(hp, .inr (0, [.int (nI n), .ref aw, .ref av, .ref az, .ref af])), (aw, .inl (cI, 16, .inl (upd wk j2_ w))), (av, .inl (cJ, 16, .inr (.inl (vp_updL wo j2_ v)))), (az, .inl (cZ, 16, .inl (upd se j2_ b)))]) ⟨hx, hb, hml, hown, htz⟩ hK hP hD hS hA (k_Sr_forgetIf_0 l dC dI cI cJ cZ sx hp ra kn H.size) (zcwV 1 htz zq_240 zq_237 zq_239 zp_2 zq_1 (by decide +kernel) ⟨Nat.le_of_ble_eq_true rfl, Nat.le_of_ble_eq_true rfl⟩) 0 2 rfl rfl [0] [1, 2, 3, 4] rfl rfl rfl (by decide) rfl hl.1 rfl (Nat.le_of_ble_eq_true rfl) zd_S_value_43 ⟨Nat.le_of_ble_eq_true rfl, Nat.le_of_ble_eq_true rfl⟩ (fun u H locs hw hP hD hS => ?_)
          obtain rfl := hw
          have hP : va_P (dC, dI) zcl [(hp, .inr (0, [.int (nI n), .ref aw, .ref av, .ref az, .ref af])), (aw, .inl (cI, 16, .inl (upd wk j2_ w))), (av, .inl (cJ, 16, .inr (.inl (vp_updL wo j2_ v)))), (az, .inl (cZ, 16, .inl (upd se j2_ b))), (sx, .inr (2, [.ref hp, .ref ra, .int (nI kn)]))] H := hP
          have hD : va_D A [(hp, .inr (0, [.int (nI n), .ref aw, .ref av, .ref az, .ref af])), (aw, .inl (cI, 16, .inl (upd wk j2_ w))), (av, .inl (cJ, 16, .inr (.inl (vp_updL wo j2_ v)))), (az, .inl (cZ, 16, .inl (upd se j2_ b))), (sx, .inr (2, [.ref hp, .ref ra, .int (nI kn)]))] := hD
          refine lv_iload hx hb zd_S_value_46 (lv_at hl 0 rfl) ?_
          have hP := hP.sub (ws' := [(sx, .inr (2, [.ref hp, .ref ra, .int (nI kn)])), (hp, .inr (0, [.int (nI n), .ref aw, .ref av, .ref az, .ref af])), (aw, .inl (cI, 16, .inl (upd wk j2_ w))), (av, .inl (cJ, 16, .inr (.inl (vp_updL wo j2_ v)))), (az, .inl (cZ, 16, .inl (upd se j2_ b)))]) [4, 0, 1, 2, 3] rfl
          have hD := hD.sub (ws' := [(sx, .inr (2, [.ref hp, .ref ra, .int (nI kn)])), (hp, .inr (0, [.int (nI n), .ref aw, .ref av, .ref az, .ref af])), (aw, .inl (cI, 16, .inl (upd wk j2_ w))), (av, .inl (cJ, 16, .inr (.inl (vp_updL wo j2_ v)))), (az, .inl (cZ, 16, .inl (upd se j2_ b)))]) [4, 0, 1, 2, 3] (by decide) rfl
          exact vx_ret (z_zret hx hb hr hlocks hP hK hD hS zd_S_value_48 (by decide) (by decide) rfl ⟨by rw [hO], by rw [hO, hT, nI_clamp (by omega)]; first | done | rfl, hT⟩)
      · have hT : zvth n (nI j2_) w = 2 := zvth_2 (by omega) hj3_ (Or.inr (z_nle c5_))
        have hP := hP.sub (ws' := [(sx, .inr (2, [.ref hp, .ref ra, .int (nI kn)])), (hp, .inr (0, [.int (nI n), .ref aw, .ref av, .ref az, .ref af])), (aw, .inl (cI, 16, .inl wk)), (av, .inl (cJ, 16, .inr (.inl wo))), (az, .inl (cZ, 16, .inl se))]) [3, 4, 0, 1, 2] rfl
        have hD := hD.sub (ws' := [(sx, .inr (2, [.ref hp, .ref ra, .int (nI kn)])), (hp, .inr (0, [.int (nI n), .ref aw, .ref av, .ref az, .ref af])), (aw, .inl (cI, 16, .inl wk)), (av, .inl (cJ, 16, .inr (.inl wo))), (az, .inl (cZ, 16, .inl se))]) [3, 4, 0, 1, 2] (by decide) rfl
        exact z_throw (own := zR_S) (cls := "java/lang/IllegalArgumentException") (text := "work is 1 to 100") (is := 36) hx hb hl9 hown htz hZ (by decide +kernel) zq_216 zq_11 rfl (by decide) zat_38.1 zat_38.2.1 (zat_38.2.2 _ _ rfl rfl) hP hK hD hS (hl.1.trans hml.symm) zd_S_value_16 zd_S_value_19 zd_S_value_20 zd_S_value_22 zd_S_value_25 hno (by decide) (Nat.le_of_ble_eq_true rfl) (by decide) (by decide) hlocks (by decide) (by decide) (Or.inr ⟨rfl, rfl, hT⟩)
set_option maxHeartbeats 4000000 in
set_option maxRecDepth 100000 in
/--  -/
theorem k_Sr_faults (l : Launch) (dC : Nat → ClassId) (dI : Nat → Nat → Nat) (cI cJ cZ : ClassId) (sx : Nat) (hp : Nat) (ra : Nat) (kn : Nat) (aw : Nat) (av : Nat) (az : Nat) (af : Nat) (n : Nat) (fl : Nat → Int32) (sh : Int32) (w : Int32) (hl9 : l.stackTraces = false) (hn : n ≤ 16) (hkn : kn ≤ 1) (sz : Nat) : zXi l zy_S_faults zw_S_faults ({ frames := 7, cells := 2, slots := 12, locals := 115 }) [.ref sx, .int sh, .int w] (dC, dI) zcl [(cI, .int), (cJ, .long), (cZ, .boolean)] [(sx, .inr (2, [.ref hp, .ref ra, .int (nI kn)])), (hp, .inr (0, [.int (nI n), .ref aw, .ref av, .ref az, .ref af])), (af, .inl (cI, 16, .inl fl))] sz (fun (r : Int32) (u : va_W) => r = nI (zfo n fl sh w) ∧ u = [(sx, .inr (2, [.ref hp, .ref ra, .int (nI (zk2 (zfo n fl sh w) kn))])), (hp, .inr (0, [.int (nI n), .ref aw, .ref av, .ref az, .ref af])), (af, .inl (cI, 16, .inl (zup (zfth n sh w) fl sh.toNatClampNeg w)))] ∧ zfth n sh w = 0) (fun (E : String) (u : va_W) => (E = "java/lang/IndexOutOfBoundsException" ∧ u = [(sx, .inr (2, [.ref hp, .ref ra, .int (nI kn)])), (hp, .inr (0, [.int (nI n), .ref aw, .ref av, .ref az, .ref af])), (af, .inl (cI, 16, .inl fl))] ∧ zfth n sh w = 1) ∨ (E = "java/lang/IllegalArgumentException" ∧ u = [(sx, .inr (2, [.ref hp, .ref ra, .int (nI kn)])), (hp, .inr (0, [.int (nI n), .ref aw, .ref av, .ref az, .ref af])), (af, .inl (cI, 16, .inl fl))] ∧ zfth n sh w = 2)) := by
  refine z_ofXi (cc := zc_S_faults) (maxL := 4) (ret := (some .boolean)) (by decide) rfl (Nat.le_of_ble_eq_true rfl) ?_
  intro p e s m below meth c A ls hx hb hr hml hown htz hlocks hin hA hP hK hD hS hl hZ hno
  have hown : s.vm.findClass zR_S = some m.cls := hown
  have hl : lv_has ls 4 [(0, .ref sx), (1, .int sh), (2, .int w)] := hl
  refine lv_aload_n hx hb zd_S_faults_0 rfl (lv_at hl 0 rfl) ?_
  refine lv_iload_n hx hb zd_S_faults_1 rfl (lv_at hl 1 rfl) ?_
  refine z_XVv (As := [.int sh]) (rest := []) (wc := [(sx, .inr (2, [.ref hp, .ref ra, .int (nI kn)])), (hp, .inr (0, [.int (nI n), .ref aw, .ref av, .ref az, .ref af]))]) (wr := [(af, .inl (cI, 16, .inl fl))]) ⟨hx, hb, hml, hown, htz⟩ hZ hK hP hD hS hA (k_Sr_needShare l dC dI cI cJ cZ sx hp ra kn aw av az af n sh (by first | assumption | omega) (by first | assumption | omega) s.heap.size) (zcwV 1 htz zq_143 zq_140 zq_142 zp_0 zq_1 (by decide +kernel) ⟨Nat.le_of_ble_eq_true rfl, Nat.le_of_ble_eq_true rfl⟩) 0 2 rfl rfl [0, 1] [2] rfl rfl rfl (by decide) rfl hl.1 rfl (Nat.le_of_ble_eq_true rfl) zd_S_faults_2 ⟨Nat.le_of_ble_eq_true rfl, Nat.le_of_ble_eq_true rfl⟩ (fun E ce q9 u H locs hw hP hD hS hce hcv hcl => ?_) (fun u H locs hw hP hD hS => ?_)
  · obtain ⟨rfl, rfl, hno1_⟩ := hw
    have hP : va_P (dC, dI) zcl [(af, .inl (cI, 16, .inl fl)), (sx, .inr (2, [.ref hp, .ref ra, .int (nI kn)])), (hp, .inr (0, [.int (nI n), .ref aw, .ref av, .ref az, .ref af]))] H := hP
    have hD : va_D A [(af, .inl (cI, 16, .inl fl)), (sx, .inr (2, [.ref hp, .ref ra, .int (nI kn)])), (hp, .inr (0, [.int (nI n), .ref aw, .ref av, .ref az, .ref af]))] := hD
    have hP := hP.sub (ws' := [(sx, .inr (2, [.ref hp, .ref ra, .int (nI kn)])), (hp, .inr (0, [.int (nI n), .ref aw, .ref av, .ref az, .ref af])), (af, .inl (cI, 16, .inl fl))]) [1, 2, 0] rfl
    have hD := hD.sub (ws' := [(sx, .inr (2, [.ref hp, .ref ra, .int (nI kn)])), (hp, .inr (0, [.int (nI n), .ref aw, .ref av, .ref az, .ref af])), (af, .inl (cI, 16, .inl fl))]) [1, 2, 0] (by decide) rfl
    exact z_out hP hK hD hS hno hlocks hce hcv hcl (by decide) (by decide) (Or.inl ⟨rfl, rfl, zfth_1 (by omega) hno1_⟩)
  · obtain ⟨j2_, rfl, hj3_, rfl⟩ := hw
    have hP : va_P (dC, dI) zcl [(af, .inl (cI, 16, .inl fl)), (sx, .inr (2, [.ref hp, .ref ra, .int (nI kn)])), (hp, .inr (0, [.int (nI n), .ref aw, .ref av, .ref az, .ref af]))] H := hP
    have hD : va_D A [(af, .inl (cI, 16, .inl fl)), (sx, .inr (2, [.ref hp, .ref ra, .int (nI kn)])), (hp, .inr (0, [.int (nI n), .ref aw, .ref av, .ref az, .ref af]))] := hD
    refine lv_iload_n hx hb zd_S_faults_5 rfl (lv_at hl 2 rfl) ?_
    refine lv_if_lt (tgt := 14) hx hb zd_S_faults_6 (by decide) (fun c4_ => ?_) (fun c4_ => ?_)
    · have hT : zfth n (nI j2_) w = 2 := zfth_2 (by omega) hj3_ (Or.inl c4_)
      have hP := hP.sub (ws' := [(sx, .inr (2, [.ref hp, .ref ra, .int (nI kn)])), (hp, .inr (0, [.int (nI n), .ref aw, .ref av, .ref az, .ref af])), (af, .inl (cI, 16, .inl fl))]) [1, 2, 0] rfl
      have hD := hD.sub (ws' := [(sx, .inr (2, [.ref hp, .ref ra, .int (nI kn)])), (hp, .inr (0, [.int (nI n), .ref aw, .ref av, .ref az, .ref af])), (af, .inl (cI, 16, .inl fl))]) [1, 2, 0] (by decide) rfl
      exact z_throw (own := zR_S) (cls := "java/lang/IllegalArgumentException") (text := "faults are 0 to 3") (is := 49) hx hb hl9 hown htz hZ (by decide +kernel) zq_216 zq_11 rfl (by decide) zat_38.1 zat_38.2.1 (zat_38.2.2 _ _ rfl rfl) hP hK hD hS (hl.1.trans hml.symm) zd_S_faults_14 zd_S_faults_17 zd_S_faults_18 zd_S_faults_20 zd_S_faults_23 hno (by decide) (Nat.le_of_ble_eq_true rfl) (by decide) (by decide) hlocks (by decide) (by decide) (Or.inr ⟨rfl, rfl, hT⟩)
    · have hlo := c4_
      refine lv_iload_n hx hb zd_S_faults_9 rfl (lv_at hl 2 rfl) ?_
      refine lv_iconst (v := (nI 3)) hx hb zd_S_faults_10 (by decide) ?_
      refine lv_icmp_le (tgt := 24) hx hb zd_S_faults_11 (by decide) (fun c5_ => ?_) (fun c5_ => ?_)
      · have hT : zfth n (nI j2_) w = 0 := zfth_0 (by omega) hj3_ hlo (z_nlt c5_)
        refine lv_aload_n hx hb zd_S_faults_24 rfl (lv_at hl 0 rfl) ?_
        refine va_get (D := (dC, dI)) (ci := 2) (v := .ref hp) (C := zR_S) (T := zF_S) (N := 3) hx hb htz zi_S hown hK hP 1 rfl rfl 0 (by decide) (htz _ zq_110) (fun _ h9 => h9) rfl zd_S_faults_25 ?_
        refine lv_iload_n hx hb zd_S_faults_28 rfl (lv_at hl 1 rfl) ?_
        refine lv_iload_n hx hb zd_S_faults_29 rfl (lv_at hl 2 rfl) ?_
        refine z_Vi (As := [.int (nI j2_), .int w]) (rest := []) (wc := [(hp, .inr (0, [.int (nI n), .ref aw, .ref av, .ref az, .ref af])), (af, .inl (cI, 16, .inl fl))]) (wr := [(sx, .inr (2, [.ref hp, .ref ra, .int (nI kn)]))]) ⟨hx, hb, hml, hown, htz⟩ hK hP hD hS hA (k_Plan_changeFaults_k l dC dI cI cJ cZ hp aw av az af n fl j2_ w (by first | assumption | omega) (by first | assumption | omega) H.size) (zcwV 2 htz zq_252 zq_249 zq_250 zq_251 zq_2 (by decide +kernel) ⟨Nat.le_of_ble_eq_true rfl, Nat.le_of_ble_eq_true rfl⟩) 2 0 rfl rfl [2, 0] [1] rfl rfl rfl (by decide) rfl hl.1 rfl (Nat.le_of_ble_eq_true rfl) zd_S_faults_30 ⟨Nat.le_of_ble_eq_true rfl, Nat.le_of_ble_eq_true rfl⟩ (fun r u H locs hw hP hD hS => ?_)
        rcases hw with ⟨rfl, rfl, hc6_⟩ | ⟨rfl, rfl, hc7_⟩
        · have hP : va_P (dC, dI) zcl [(sx, .inr (2, [.ref hp, .ref ra, .int (nI kn)])), (hp, .inr (0, [.int (nI n), .ref aw, .ref av, .ref az, .ref af])), (af, .inl (cI, 16, .inl (upd fl j2_ w)))] H := hP
          have hD : va_D A [(sx, .inr (2, [.ref hp, .ref ra, .int (nI kn)])), (hp, .inr (0, [.int (nI n), .ref aw, .ref av, .ref az, .ref af])), (af, .inl (cI, 16, .inl (upd fl j2_ w)))] := hD
          have hO := zfo_1 (by omega) hT hc6_
          refine lv_istore_n (lv' := [(3, .int (nI 1)), (0, .ref sx), (1, .int (nI j2_)), (2, .int w)]) hx hb zd_S_faults_33 rfl hl (by decide) rfl (fun ls hl => ?_)
          refine lv_aload_n hx hb zd_S_faults_34 rfl (lv_at hl 1 rfl) ?_
          refine lv_iload_n hx hb zd_S_faults_35 rfl (lv_at hl 0 rfl) ?_
          refine z_Vv (As := [.int (nI 1)]) (rest := []) (wc := [(sx, .inr (2, [.ref hp, .ref ra, .int (nI kn)]))]) (wr := [(hp, .inr (0, [.int (nI n), .ref aw, .ref av, .ref az, .ref af])), (af, .inl (cI, 16, .inl (upd fl j2_ w)))]) ⟨hx, hb, hml, hown, htz⟩ hK hP hD hS hA (k_Sr_forgetIf_1 l dC dI cI cJ cZ sx hp ra kn H.size) (zcwV 1 htz zq_240 zq_237 zq_239 zp_2 zq_1 (by decide +kernel) ⟨Nat.le_of_ble_eq_true rfl, Nat.le_of_ble_eq_true rfl⟩) 0 2 rfl rfl [0] [1, 2] rfl rfl rfl (by decide) rfl hl.1 rfl (Nat.le_of_ble_eq_true rfl) zd_S_faults_36 ⟨Nat.le_of_ble_eq_true rfl, Nat.le_of_ble_eq_true rfl⟩ (fun u H locs hw hP hD hS => ?_)
          obtain rfl := hw
          have hP : va_P (dC, dI) zcl [(hp, .inr (0, [.int (nI n), .ref aw, .ref av, .ref az, .ref af])), (af, .inl (cI, 16, .inl (upd fl j2_ w))), (sx, .inr (2, [.ref hp, .ref ra, .int (nI 0)]))] H := hP
          have hD : va_D A [(hp, .inr (0, [.int (nI n), .ref aw, .ref av, .ref az, .ref af])), (af, .inl (cI, 16, .inl (upd fl j2_ w))), (sx, .inr (2, [.ref hp, .ref ra, .int (nI 0)]))] := hD
          refine lv_iload_n hx hb zd_S_faults_39 rfl (lv_at hl 0 rfl) ?_
          have hP := hP.sub (ws' := [(sx, .inr (2, [.ref hp, .ref ra, .int (nI 0)])), (hp, .inr (0, [.int (nI n), .ref aw, .ref av, .ref az, .ref af])), (af, .inl (cI, 16, .inl (upd fl j2_ w)))]) [2, 0, 1] rfl
          have hD := hD.sub (ws' := [(sx, .inr (2, [.ref hp, .ref ra, .int (nI 0)])), (hp, .inr (0, [.int (nI n), .ref aw, .ref av, .ref az, .ref af])), (af, .inl (cI, 16, .inl (upd fl j2_ w)))]) [2, 0, 1] (by decide) rfl
          exact vx_ret (z_zret hx hb hr hlocks hP hK hD hS zd_S_faults_40 (by decide) (by decide) rfl ⟨by rw [hO], by rw [hO, hT, nI_clamp (by omega)]; first | done | rfl, hT⟩)
        · have hP : va_P (dC, dI) zcl [(sx, .inr (2, [.ref hp, .ref ra, .int (nI kn)])), (hp, .inr (0, [.int (nI n), .ref aw, .ref av, .ref az, .ref af])), (af, .inl (cI, 16, .inl (upd fl j2_ w)))] H := hP
          have hD : va_D A [(sx, .inr (2, [.ref hp, .ref ra, .int (nI kn)])), (hp, .inr (0, [.int (nI n), .ref aw, .ref av, .ref az, .ref af])), (af, .inl (cI, 16, .inl (upd fl j2_ w)))] := hD
          have hO : zfo n fl (nI j2_) w = 0 := zfo_0 (by omega) hc7_
          refine lv_istore_n (lv' := [(3, .int (nI 0)), (0, .ref sx), (1, .int (nI j2_)), (2, .int w)]) hx hb zd_S_faults_33 rfl hl (by decide) rfl (fun ls hl => ?_)
          refine lv_aload_n hx hb zd_S_faults_34 rfl (lv_at hl 1 rfl) ?_
          refine lv_iload_n hx hb zd_S_faults_35 rfl (lv_at hl 0 rfl) ?_
          refine z_Vv (As := [.int (nI 0)]) (rest := []) (wc := [(sx, .inr (2, [.ref hp, .ref ra, .int (nI kn)]))]) (wr := [(hp, .inr (0, [.int (nI n), .ref aw, .ref av, .ref az, .ref af])), (af, .inl (cI, 16, .inl (upd fl j2_ w)))]) ⟨hx, hb, hml, hown, htz⟩ hK hP hD hS hA (k_Sr_forgetIf_0 l dC dI cI cJ cZ sx hp ra kn H.size) (zcwV 1 htz zq_240 zq_237 zq_239 zp_2 zq_1 (by decide +kernel) ⟨Nat.le_of_ble_eq_true rfl, Nat.le_of_ble_eq_true rfl⟩) 0 2 rfl rfl [0] [1, 2] rfl rfl rfl (by decide) rfl hl.1 rfl (Nat.le_of_ble_eq_true rfl) zd_S_faults_36 ⟨Nat.le_of_ble_eq_true rfl, Nat.le_of_ble_eq_true rfl⟩ (fun u H locs hw hP hD hS => ?_)
          obtain rfl := hw
          have hP : va_P (dC, dI) zcl [(hp, .inr (0, [.int (nI n), .ref aw, .ref av, .ref az, .ref af])), (af, .inl (cI, 16, .inl (upd fl j2_ w))), (sx, .inr (2, [.ref hp, .ref ra, .int (nI kn)]))] H := hP
          have hD : va_D A [(hp, .inr (0, [.int (nI n), .ref aw, .ref av, .ref az, .ref af])), (af, .inl (cI, 16, .inl (upd fl j2_ w))), (sx, .inr (2, [.ref hp, .ref ra, .int (nI kn)]))] := hD
          refine lv_iload_n hx hb zd_S_faults_39 rfl (lv_at hl 0 rfl) ?_
          have hP := hP.sub (ws' := [(sx, .inr (2, [.ref hp, .ref ra, .int (nI kn)])), (hp, .inr (0, [.int (nI n), .ref aw, .ref av, .ref az, .ref af])), (af, .inl (cI, 16, .inl (upd fl j2_ w)))]) [2, 0, 1] rfl
          have hD := hD.sub (ws' := [(sx, .inr (2, [.ref hp, .ref ra, .int (nI kn)])), (hp, .inr (0, [.int (nI n), .ref aw, .ref av, .ref az, .ref af])), (af, .inl (cI, 16, .inl (upd fl j2_ w)))]) [2, 0, 1] (by decide) rfl
          exact vx_ret (z_zret hx hb hr hlocks hP hK hD hS zd_S_faults_40 (by decide) (by decide) rfl ⟨by rw [hO], by rw [hO, hT, nI_clamp (by omega)]; first | done | rfl, hT⟩)
      · have hT : zfth n (nI j2_) w = 2 := zfth_2 (by omega) hj3_ (Or.inr (z_nle c5_))
        have hP := hP.sub (ws' := [(sx, .inr (2, [.ref hp, .ref ra, .int (nI kn)])), (hp, .inr (0, [.int (nI n), .ref aw, .ref av, .ref az, .ref af])), (af, .inl (cI, 16, .inl fl))]) [1, 2, 0] rfl
        have hD := hD.sub (ws' := [(sx, .inr (2, [.ref hp, .ref ra, .int (nI kn)])), (hp, .inr (0, [.int (nI n), .ref aw, .ref av, .ref az, .ref af])), (af, .inl (cI, 16, .inl fl))]) [1, 2, 0] (by decide) rfl
        exact z_throw (own := zR_S) (cls := "java/lang/IllegalArgumentException") (text := "faults are 0 to 3") (is := 49) hx hb hl9 hown htz hZ (by decide +kernel) zq_216 zq_11 rfl (by decide) zat_38.1 zat_38.2.1 (zat_38.2.2 _ _ rfl rfl) hP hK hD hS (hl.1.trans hml.symm) zd_S_faults_14 zd_S_faults_17 zd_S_faults_18 zd_S_faults_20 zd_S_faults_23 hno (by decide) (Nat.le_of_ble_eq_true rfl) (by decide) (by decide) hlocks (by decide) (by decide) (Or.inr ⟨rfl, rfl, hT⟩)
