set_option maxHeartbeats 4000000 in
set_option maxRecDepth 100000 in
/--  -/
theorem k_Arrays_fill (l : Launch) (dC : Nat → ClassId) (dI : Nat → Nat → Nat) (cI cJ cZ : ClassId) (aa : Nat) (ff : ZA) (v : Int32)  (sz : Nat) : zMv l zy_F_fill zw_F_fill ({ frames := 0, cells := 0, slots := 0, locals := 0 }) [.ref aa, .int v] (dC, dI) zcl [(cI, .int), (cJ, .long), (cZ, .boolean)] [(aa, .inl (cI, 16, .inl ff))] sz (fun (u : va_W) => u = [(aa, .inl (cI, 16, .inl (fun _ => v)))]) := by
  refine z_ofv (cc := zc_F_fill) (maxL := 4) (ret := none) (by decide) rfl (Nat.le_of_ble_eq_true rfl) ?_
  intro p e s m below meth c A ls hx hb hr hml hown htz hlocks hin hA hP hK hD hS hl
  have hown : s.vm.findClass zR_F = some m.cls := hown
  have hl : lv_has ls 4 [(0, .ref aa), (1, .int v)] := hl
  refine lv_iconst (v := (nI 0)) hx hb zd_F_fill_0 (by decide) ?_
  refine lv_istore_n (lv' := [(2, .int (nI 0)), (0, .ref aa), (1, .int v)]) hx hb zd_F_fill_1 rfl hl (by decide) rfl (fun ls hl => ?_)
  refine lv_aload_n hx hb zd_F_fill_2 rfl (lv_at hl 1 rfl) ?_
  refine va_alen (v := nI 16) hx hb hK hP 0 0 rfl rfl rfl zd_F_fill_3 ?_
  refine lv_istore_n (lv' := [(3, .int (nI 16)), (2, .int (nI 0)), (0, .ref aa), (1, .int v)]) hx hb zd_F_fill_4 rfl hl (by decide) rfl (fun ls hl => ?_)
  have lp5 : ∀ (fuel : Nat) (k : Nat) (f9 : ZA) (H : Heap) (locs : List Loc) (ls : Array Slot), (k ≤ 16) → (∀ i, i < k → f9 i = v) → 16 - k < fuel → va_P (dC, dI) zcl [(aa, .inl (cI, 16, .inl f9))] H → va_D A [(aa, .inl (cI, 16, .inl f9))] → va_S A s.heap H locs → lv_has ls 4 [(3, .int (nI 16)), (2, .int (nI k)), (0, .ref aa), (1, .int v)] → W p l e ({ frames := 0, cells := 0, slots := 0, locals := 0 } : Room) s m [.ref aa, .int v].toArray below meth c H locs 0 0 (MQ below (va_Qv (fun (u : va_W) => u = [(aa, .inl (cI, 16, .inl (fun _ => v)))]) (zAt (dC, dI) zcl [(cI, .int), (cJ, .long), (cZ, .boolean)] A) A) [.ref aa, .int v].toArray s 0 0 A) (F0 m 5 ls []) := by
    intro fuel
    induction fuel with
    | zero => intro k f9 H locs ls hk hz hf; exact absurd hf (Nat.not_lt_zero _)
    | succ fuel ih =>
      intro k f9 H locs ls hk hz hf hP hD hS hl
      refine lv_iload_n hx hb zd_F_fill_5 rfl (lv_at hl 1 rfl) ?_
      refine lv_iload_n hx hb zd_F_fill_6 rfl (lv_at hl 0 rfl) ?_
      refine lv_icmp_ge (tgt := 20) hx hb zd_F_fill_7 (by decide) (fun c1_ => ?_) (fun c1_ => ?_)
      · have hk2 : k = 16 := Nat.le_antisymm hk (Nat.le_of_not_lt (fun h => nI_ge h (by decide) c1_))
        subst hk2
        have hP := z_fillP (g := fun _ => v) hz hP
        have hD := z_fillD (y := .inl (cI, 16, .inl (fun _ => v))) hD
        exact z_vret hx hb hr hlocks hP hK hD hS zd_F_fill_20 (by decide) (by decide) rfl
      · have hk2 : k < 16 := Nat.lt_of_not_le (fun h => c1_ (nI_le h (by omega)))
        refine lv_aload_n hx hb zd_F_fill_10 rfl (lv_at hl 2 rfl) ?_
        refine lv_iload_n hx hb zd_F_fill_11 rfl (lv_at hl 1 rfl) ?_
        refine lv_iload_n hx hb zd_F_fill_12 rfl (lv_at hl 3 rfl) ?_
        refine z_iast hx hb hK hP hD hS 0 0 rfl rfl (j := k) (by omega) (by decide) zd_F_fill_13 (fun H locs hP hD hS => ?_)
        have hP : va_P (dC, dI) zcl [(aa, .inl (cI, 16, .inl (upd f9 k v)))] H := hP
        have hD : va_D A [(aa, .inl (cI, 16, .inl (upd f9 k v)))] := hD
        refine lv_iinc (v := (nI (k + 1))) (lv' := [(2, .int (nI (k + 1))), (3, .int (nI 16)), (0, .ref aa), (1, .int v)]) hx hb zd_F_fill_14 hl (k := 1) rfl (nI_1 k) (by decide) rfl (fun ls hl => ?_)
        refine lv_goto (tgt := 5) hx hb zd_F_fill_17 (by decide) ?_
        exact ih (k + 1) (upd f9 k v) _ _ _ (by omega) (z_fillstep hz) (by omega) hP hD hS (lv_sub hl [1, 0, 2, 3] rfl)
  exact lp5 _ 0 ff _ _ _ (Nat.zero_le _) (fun i hi => absurd hi (Nat.not_lt_zero _)) (Nat.lt_succ_self _) hP hD hS hl
set_option maxHeartbeats 4000000 in
set_option maxRecDepth 100000 in
/--  -/
theorem k_Plan_init (l : Launch) (dC : Nat → ClassId) (dI : Nat → Nat → Nat) (cI cJ cZ : ClassId) (hp : Nat) (sh : Int32)  (sz : Nat) : zMv l zy_P_init zw_P_init ({ frames := 1, cells := 4, slots := 64, locals := 23 }) [.ref hp, .int sh] (dC, dI) zcl [(cI, .int), (cJ, .long), (cZ, .boolean)] [(hp, .inr (0, [.int (nI 0), .null, .null, .null, .null]))] sz (fun (u : va_W) => ∃ (aw : Nat) (av : Nat) (az : Nat) (af : Nat), u = [(hp, .inr (0, [.int (nI (zcp sh)), .ref aw, .ref av, .ref az, .ref af])), (aw, .inl (cI, 16, .inl (fun _ => nI 1))), (av, .inl (cJ, 16, .inr (.inl (fun _ => 0)))), (az, .inl (cZ, 16, .inl (fun _ => 0))), (af, .inl (cI, 16, .inl (fun _ => 0)))]) := by
  refine z_ofv (cc := zc_P_init) (maxL := 2) (ret := none) (by decide) rfl (Nat.le_of_ble_eq_true rfl) ?_
  intro p e s m below meth c A ls hx hb hr hml hown htz hlocks hin hA hP hK hD hS hl
  have hown : s.vm.findClass zR_P = some m.cls := hown
  have hl : lv_has ls 2 [(0, .ref hp), (1, .int sh)] := hl
  refine lv_aload_n hx hb zd_P_init_0 rfl (lv_at hl 0 rfl) ?_
  refine W.objInit hx hb hown (htz _ zq_26) (htz _ zq_19) (htz _ zq_20) rfl (by rw [hml]; exact hl.1) rfl zd_P_init_1 (Nat.le_of_ble_eq_true rfl) (Nat.le_of_ble_eq_true rfl) ?_
  refine W.eq (g2 := F0 m 4 ls []) rfl ?_
  refine lv_aload_n hx hb zd_P_init_4 rfl (lv_at hl 0 rfl) ?_
  refine lv_iconst (v := (nI 1)) hx hb zd_P_init_5 (by decide) ?_
  refine lv_bipush (v := (nI 16)) hx hb zd_P_init_6 (by decide) ?_
  refine lv_iload_n hx hb zd_P_init_8 rfl (lv_at hl 1 rfl) ?_
  refine va_mmin hx hb (hml.trans hl.1.symm) hown (htz _ zq_27) (htz _ zq_28) (htz _ zq_3) (htz _ zq_29) (Nat.le_of_ble_eq_true rfl) (Nat.le_of_ble_eq_true rfl) (Nat.le_of_ble_eq_true rfl) (Nat.le_of_ble_eq_true rfl) zd_P_init_9 ?_
  refine va_mmax hx hb (hml.trans hl.1.symm) hown (htz _ zq_30) (htz _ zq_31) (htz _ zq_3) (htz _ zq_32) (Nat.le_of_ble_eq_true rfl) (Nat.le_of_ble_eq_true rfl) (Nat.le_of_ble_eq_true rfl) (Nat.le_of_ble_eq_true rfl) zd_P_init_12 ?_
  refine z_topi (y := nI (zcp sh)) (z_clamp sh) ?_
  refine va_putF (D := (dC, dI)) (ci := 0) (v := .int (nI (zcp sh))) (ty := .int) (C := zR_P) (T := zF_P) (N := 5) hx hb htz zi_P zt_P zt_P_ok zn_P hown hK hP hD hS 0 rfl rfl 0 (by decide) (htz _ zq_36) (fun _ h9 => h9) rfl hin rfl (by decide +kernel) rfl rfl (Nat.le_of_ble_eq_true rfl) zd_P_init_15 (fun H locs hP hD hS => ?_)
  have hP : va_P (dC, dI) zcl [(hp, .inr (0, [.int (nI (zcp sh)), .null, .null, .null, .null]))] H := hP
  have hD : va_D A [(hp, .inr (0, [.int (nI (zcp sh)), .null, .null, .null, .null]))] := hD
  refine lv_aload_n hx hb zd_P_init_18 rfl (lv_at hl 0 rfl) ?_
  refine lv_bipush (v := (nI 16)) hx hb zd_P_init_19 (by decide) ?_
  refine va_newa (atype := .int) (a0 := (16, .inl (fun _ => 0))) (n := nI 16) hx hb (htz _ zq_52) (ty := .int) rfl hK hP hD hS hA (fun _ => rfl) (by decide) (by decide) (by decide) (by decide) (by decide) zd_P_init_21 (fun q1_ cA9 H hK9 hP hD hS => ?_)
  obtain rfl : cI = cA9 := z_same hK9 0 (t1 := 3) rfl rfl (by decide)
  have hP : va_P (dC, dI) zcl [(hp, .inr (0, [.int (nI (zcp sh)), .null, .null, .null, .null])), (q1_, .inl (cI, 16, .inl (fun _ => 0)))] H := hP
  have hD : va_D A [(hp, .inr (0, [.int (nI (zcp sh)), .null, .null, .null, .null])), (q1_, .inl (cI, 16, .inl (fun _ => 0)))] := hD
  refine va_putF (D := (dC, dI)) (ci := 0) (v := .ref q1_) (ty := (.array .int)) (C := zR_P) (T := zF_P) (N := 5) hx hb htz zi_P zt_P zt_P_ok zn_P hown hK hP hD hS 0 rfl rfl 1 (by decide) (htz _ zq_37) (fun _ h9 => h9) rfl hin rfl (by decide +kernel) rfl rfl (Nat.le_of_ble_eq_true rfl) zd_P_init_23 (fun H locs hP hD hS => ?_)
  have hP : va_P (dC, dI) zcl [(hp, .inr (0, [.int (nI (zcp sh)), .ref q1_, .null, .null, .null])), (q1_, .inl (cI, 16, .inl (fun _ => 0)))] H := hP
  have hD : va_D A [(hp, .inr (0, [.int (nI (zcp sh)), .ref q1_, .null, .null, .null])), (q1_, .inl (cI, 16, .inl (fun _ => 0)))] := hD
  refine lv_aload_n hx hb zd_P_init_26 rfl (lv_at hl 0 rfl) ?_
  refine lv_bipush (v := (nI 16)) hx hb zd_P_init_27 (by decide) ?_
  refine va_newa (atype := .long) (a0 := (16, .inr (.inl (fun _ => 0)))) (n := nI 16) hx hb (htz _ zq_53) (ty := .long) rfl hK hP hD hS hA (fun _ => rfl) (by decide) (by decide) (by decide) (by decide) (by decide) zd_P_init_29 (fun q2_ cA9 H hK9 hP hD hS => ?_)
  obtain rfl : cJ = cA9 := z_same hK9 1 (t1 := 3) rfl rfl (by decide)
  have hP : va_P (dC, dI) zcl [(hp, .inr (0, [.int (nI (zcp sh)), .ref q1_, .null, .null, .null])), (q1_, .inl (cI, 16, .inl (fun _ => 0))), (q2_, .inl (cJ, 16, .inr (.inl (fun _ => 0))))] H := hP
  have hD : va_D A [(hp, .inr (0, [.int (nI (zcp sh)), .ref q1_, .null, .null, .null])), (q1_, .inl (cI, 16, .inl (fun _ => 0))), (q2_, .inl (cJ, 16, .inr (.inl (fun _ => 0))))] := hD
  refine va_putF (D := (dC, dI)) (ci := 0) (v := .ref q2_) (ty := (.array .long)) (C := zR_P) (T := zF_P) (N := 5) hx hb htz zi_P zt_P zt_P_ok zn_P hown hK hP hD hS 0 rfl rfl 2 (by decide) (htz _ zq_38) (fun _ h9 => h9) rfl hin rfl (by decide +kernel) rfl rfl (Nat.le_of_ble_eq_true rfl) zd_P_init_31 (fun H locs hP hD hS => ?_)
  have hP : va_P (dC, dI) zcl [(hp, .inr (0, [.int (nI (zcp sh)), .ref q1_, .ref q2_, .null, .null])), (q1_, .inl (cI, 16, .inl (fun _ => 0))), (q2_, .inl (cJ, 16, .inr (.inl (fun _ => 0))))] H := hP
  have hD : va_D A [(hp, .inr (0, [.int (nI (zcp sh)), .ref q1_, .ref q2_, .null, .null])), (q1_, .inl (cI, 16, .inl (fun _ => 0))), (q2_, .inl (cJ, 16, .inr (.inl (fun _ => 0))))] := hD
  refine lv_aload_n hx hb zd_P_init_34 rfl (lv_at hl 0 rfl) ?_
  refine lv_bipush (v := (nI 16)) hx hb zd_P_init_35 (by decide) ?_
  refine va_newa (atype := .boolean) (a0 := (16, .inl (fun _ => 0))) (n := nI 16) hx hb (htz _ zq_54) (ty := .boolean) rfl hK hP hD hS hA (fun _ => rfl) (by decide) (by decide) (by decide) (by decide) (by decide) zd_P_init_37 (fun q3_ cA9 H hK9 hP hD hS => ?_)
  obtain rfl : cZ = cA9 := z_same hK9 2 (t1 := 3) rfl rfl (by decide)
  have hP : va_P (dC, dI) zcl [(hp, .inr (0, [.int (nI (zcp sh)), .ref q1_, .ref q2_, .null, .null])), (q1_, .inl (cI, 16, .inl (fun _ => 0))), (q2_, .inl (cJ, 16, .inr (.inl (fun _ => 0)))), (q3_, .inl (cZ, 16, .inl (fun _ => 0)))] H := hP
  have hD : va_D A [(hp, .inr (0, [.int (nI (zcp sh)), .ref q1_, .ref q2_, .null, .null])), (q1_, .inl (cI, 16, .inl (fun _ => 0))), (q2_, .inl (cJ, 16, .inr (.inl (fun _ => 0)))), (q3_, .inl (cZ, 16, .inl (fun _ => 0)))] := hD
  refine va_putF (D := (dC, dI)) (ci := 0) (v := .ref q3_) (ty := (.array .boolean)) (C := zR_P) (T := zF_P) (N := 5) hx hb htz zi_P zt_P zt_P_ok zn_P hown hK hP hD hS 0 rfl rfl 3 (by decide) (htz _ zq_39) (fun _ h9 => h9) rfl hin rfl (by decide +kernel) rfl rfl (Nat.le_of_ble_eq_true rfl) zd_P_init_39 (fun H locs hP hD hS => ?_)
  have hP : va_P (dC, dI) zcl [(hp, .inr (0, [.int (nI (zcp sh)), .ref q1_, .ref q2_, .ref q3_, .null])), (q1_, .inl (cI, 16, .inl (fun _ => 0))), (q2_, .inl (cJ, 16, .inr (.inl (fun _ => 0)))), (q3_, .inl (cZ, 16, .inl (fun _ => 0)))] H := hP
  have hD : va_D A [(hp, .inr (0, [.int (nI (zcp sh)), .ref q1_, .ref q2_, .ref q3_, .null])), (q1_, .inl (cI, 16, .inl (fun _ => 0))), (q2_, .inl (cJ, 16, .inr (.inl (fun _ => 0)))), (q3_, .inl (cZ, 16, .inl (fun _ => 0)))] := hD
  refine lv_aload_n hx hb zd_P_init_42 rfl (lv_at hl 0 rfl) ?_
  refine lv_bipush (v := (nI 16)) hx hb zd_P_init_43 (by decide) ?_
  refine va_newa (atype := .int) (a0 := (16, .inl (fun _ => 0))) (n := nI 16) hx hb (htz _ zq_52) (ty := .int) rfl hK hP hD hS hA (fun _ => rfl) (by decide) (by decide) (by decide) (by decide) (by decide) zd_P_init_45 (fun q4_ cA9 H hK9 hP hD hS => ?_)
  obtain rfl : cI = cA9 := z_same hK9 0 (t1 := 3) rfl rfl (by decide)
  have hP : va_P (dC, dI) zcl [(hp, .inr (0, [.int (nI (zcp sh)), .ref q1_, .ref q2_, .ref q3_, .null])), (q1_, .inl (cI, 16, .inl (fun _ => 0))), (q2_, .inl (cJ, 16, .inr (.inl (fun _ => 0)))), (q3_, .inl (cZ, 16, .inl (fun _ => 0))), (q4_, .inl (cI, 16, .inl (fun _ => 0)))] H := hP
  have hD : va_D A [(hp, .inr (0, [.int (nI (zcp sh)), .ref q1_, .ref q2_, .ref q3_, .null])), (q1_, .inl (cI, 16, .inl (fun _ => 0))), (q2_, .inl (cJ, 16, .inr (.inl (fun _ => 0)))), (q3_, .inl (cZ, 16, .inl (fun _ => 0))), (q4_, .inl (cI, 16, .inl (fun _ => 0)))] := hD
  refine va_putF (D := (dC, dI)) (ci := 0) (v := .ref q4_) (ty := (.array .int)) (C := zR_P) (T := zF_P) (N := 5) hx hb htz zi_P zt_P zt_P_ok zn_P hown hK hP hD hS 0 rfl rfl 4 (by decide) (htz _ zq_40) (fun _ h9 => h9) rfl hin rfl (by decide +kernel) rfl rfl (Nat.le_of_ble_eq_true rfl) zd_P_init_47 (fun H locs hP hD hS => ?_)
  have hP : va_P (dC, dI) zcl [(hp, .inr (0, [.int (nI (zcp sh)), .ref q1_, .ref q2_, .ref q3_, .ref q4_])), (q1_, .inl (cI, 16, .inl (fun _ => 0))), (q2_, .inl (cJ, 16, .inr (.inl (fun _ => 0)))), (q3_, .inl (cZ, 16, .inl (fun _ => 0))), (q4_, .inl (cI, 16, .inl (fun _ => 0)))] H := hP
  have hD : va_D A [(hp, .inr (0, [.int (nI (zcp sh)), .ref q1_, .ref q2_, .ref q3_, .ref q4_])), (q1_, .inl (cI, 16, .inl (fun _ => 0))), (q2_, .inl (cJ, 16, .inr (.inl (fun _ => 0)))), (q3_, .inl (cZ, 16, .inl (fun _ => 0))), (q4_, .inl (cI, 16, .inl (fun _ => 0)))] := hD
  refine lv_aload_n hx hb zd_P_init_50 rfl (lv_at hl 0 rfl) ?_
  refine va_get (D := (dC, dI)) (ci := 0) (v := .ref q1_) (C := zR_P) (T := zF_P) (N := 5) hx hb htz zi_P hown hK hP 0 rfl rfl 1 (by decide) (htz _ zq_37) (fun _ h9 => h9) rfl zd_P_init_51 ?_
  refine lv_iconst (v := (nI 1)) hx hb zd_P_init_54 (by decide) ?_
  refine z_Sv (As := [.ref q1_, .int (nI 1)]) (rest := []) (wc := [(q1_, .inl (cI, 16, .inl (fun _ => 0)))]) (wr := [(hp, .inr (0, [.int (nI (zcp sh)), .ref q1_, .ref q2_, .ref q3_, .ref q4_])), (q2_, .inl (cJ, 16, .inr (.inl (fun _ => 0)))), (q3_, .inl (cZ, 16, .inl (fun _ => 0))), (q4_, .inl (cI, 16, .inl (fun _ => 0)))]) ⟨hx, hb, hml, hown, htz⟩ hK hP hD hS hA (k_Arrays_fill l dC dI cI cJ cZ q1_ (fun _ => 0) (nI 1) H.size) (zcwS 2 htz zq_35 zq_33 zq_34 zq_4 (by decide +kernel) ⟨Nat.le_of_ble_eq_true rfl, Nat.le_of_ble_eq_true rfl⟩) [1] [0, 2, 3, 4] rfl rfl rfl (by decide) rfl hl.1 rfl (Nat.le_of_ble_eq_true rfl) zd_P_init_55 ⟨Nat.le_of_ble_eq_true rfl, Nat.le_of_ble_eq_true rfl⟩ (fun u H locs hw hP hD hS => ?_)
  obtain rfl := hw
  have hP : va_P (dC, dI) zcl [(hp, .inr (0, [.int (nI (zcp sh)), .ref q1_, .ref q2_, .ref q3_, .ref q4_])), (q2_, .inl (cJ, 16, .inr (.inl (fun _ => 0)))), (q3_, .inl (cZ, 16, .inl (fun _ => 0))), (q4_, .inl (cI, 16, .inl (fun _ => 0))), (q1_, .inl (cI, 16, .inl (fun _ => (nI 1))))] H := hP
  have hD : va_D A [(hp, .inr (0, [.int (nI (zcp sh)), .ref q1_, .ref q2_, .ref q3_, .ref q4_])), (q2_, .inl (cJ, 16, .inr (.inl (fun _ => 0)))), (q3_, .inl (cZ, 16, .inl (fun _ => 0))), (q4_, .inl (cI, 16, .inl (fun _ => 0))), (q1_, .inl (cI, 16, .inl (fun _ => (nI 1))))] := hD
  have hP := hP.sub (ws' := [(hp, .inr (0, [.int (nI (zcp sh)), .ref q1_, .ref q2_, .ref q3_, .ref q4_])), (q1_, .inl (cI, 16, .inl (fun _ => (nI 1)))), (q2_, .inl (cJ, 16, .inr (.inl (fun _ => 0)))), (q3_, .inl (cZ, 16, .inl (fun _ => 0))), (q4_, .inl (cI, 16, .inl (fun _ => 0)))]) [0, 4, 1, 2, 3] rfl
  have hD := hD.sub (ws' := [(hp, .inr (0, [.int (nI (zcp sh)), .ref q1_, .ref q2_, .ref q3_, .ref q4_])), (q1_, .inl (cI, 16, .inl (fun _ => (nI 1)))), (q2_, .inl (cJ, 16, .inr (.inl (fun _ => 0)))), (q3_, .inl (cZ, 16, .inl (fun _ => 0))), (q4_, .inl (cI, 16, .inl (fun _ => 0)))]) [0, 4, 1, 2, 3] (by decide) rfl
  exact z_vret hx hb hr hlocks hP hK hD hS zd_P_init_58 (by decide) (by decide) ⟨_, _, _, _, rfl⟩
set_option maxHeartbeats 4000000 in
set_option maxRecDepth 100000 in
/--  -/
theorem k_Race_init (l : Launch) (dC : Nat → ClassId) (dI : Nat → Nat → Nat) (cI cJ cZ : ClassId) (ra : Nat) (hp : Nat)  (sz : Nat) : zMv l zy_Q_init zw_Q_init ({ frames := 1, cells := 8, slots := 128, locals := 12 }) [.ref ra, .ref hp] (dC, dI) zcl [(cI, .int), (cJ, .long), (cZ, .boolean)] [(ra, .inr (1, [.null, .null, .null, .null, .null, .null, .null, .null, .null, .int (nI 0), .int (nI 0), .int (nI 0), .int (nI 0), .int (nI 0), .int (nI 0), .long 0]))] sz (fun (u : va_W) => ∃ (ah : Nat) (am : Nat) (at_ : Nat) (asp : Nat) (afa : Nat) (ado : Nat) (adt : Nat) (aor : Nat), u = [(ra, .inr (1, [.ref hp, .ref ah, .ref am, .ref at_, .ref asp, .ref afa, .ref ado, .ref adt, .ref aor, .int (nI 0), .int (nI 0), .int (nI 0), .int (nI 0), .int (nI 0), .int (nI 0), .long 0])), (ah, .inl (cI, 16, .inl (fun _ => 0))), (am, .inl (cI, 16, .inl (fun _ => 0))), (at_, .inl (cI, 16, .inl (fun _ => 0))), (asp, .inl (cI, 16, .inl (fun _ => 0))), (afa, .inl (cI, 16, .inl (fun _ => 0))), (ado, .inl (cI, 16, .inl (fun _ => 0))), (adt, .inl (cI, 16, .inl (fun _ => 0))), (aor, .inl (cI, 16, .inl (fun _ => 0)))]) := by
  refine z_ofv (cc := zc_Q_init) (maxL := 2) (ret := none) (by decide) rfl (Nat.le_of_ble_eq_true rfl) ?_
  intro p e s m below meth c A ls hx hb hr hml hown htz hlocks hin hA hP hK hD hS hl
  have hown : s.vm.findClass zR_Q = some m.cls := hown
  have hl : lv_has ls 2 [(0, .ref ra), (1, .ref hp)] := hl
  refine lv_aload_n hx hb zd_Q_init_0 rfl (lv_at hl 0 rfl) ?_
  refine W.objInit hx hb hown (htz _ zq_60) (htz _ zq_19) (htz _ zq_20) rfl (by rw [hml]; exact hl.1) rfl zd_Q_init_1 (Nat.le_of_ble_eq_true rfl) (Nat.le_of_ble_eq_true rfl) ?_
  refine W.eq (g2 := F0 m 4 ls []) rfl ?_
  refine lv_aload_n hx hb zd_Q_init_4 rfl (lv_at hl 0 rfl) ?_
  refine lv_aload_n hx hb zd_Q_init_5 rfl (lv_at hl 1 rfl) ?_
  refine va_putF (D := (dC, dI)) (ci := 1) (v := .ref hp) (ty := (.object "ShareRuns$Plan")) (C := zR_Q) (T := zF_Q) (N := 16) hx hb htz zi_Q zt_Q zt_Q_ok zn_Q hown hK hP hD hS 0 rfl rfl 0 (by decide) (htz _ zq_61) (fun _ h9 => h9) rfl hin rfl (by decide +kernel) rfl rfl (Nat.le_of_ble_eq_true rfl) zd_Q_init_6 (fun H locs hP hD hS => ?_)
  have hP : va_P (dC, dI) zcl [(ra, .inr (1, [.ref hp, .null, .null, .null, .null, .null, .null, .null, .null, .int (nI 0), .int (nI 0), .int (nI 0), .int (nI 0), .int (nI 0), .int (nI 0), .long 0]))] H := hP
  have hD : va_D A [(ra, .inr (1, [.ref hp, .null, .null, .null, .null, .null, .null, .null, .null, .int (nI 0), .int (nI 0), .int (nI 0), .int (nI 0), .int (nI 0), .int (nI 0), .long 0]))] := hD
  refine lv_aload_n hx hb zd_Q_init_9 rfl (lv_at hl 0 rfl) ?_
  refine lv_bipush (v := (nI 16)) hx hb zd_Q_init_10 (by decide) ?_
  refine va_newa (atype := .int) (a0 := (16, .inl (fun _ => 0))) (n := nI 16) hx hb (htz _ zq_52) (ty := .int) rfl hK hP hD hS hA (fun _ => rfl) (by decide) (by decide) (by decide) (by decide) (by decide) zd_Q_init_12 (fun q1_ cA9 H hK9 hP hD hS => ?_)
  obtain rfl : cI = cA9 := z_same hK9 0 (t1 := 3) rfl rfl (by decide)
  have hP : va_P (dC, dI) zcl [(ra, .inr (1, [.ref hp, .null, .null, .null, .null, .null, .null, .null, .null, .int (nI 0), .int (nI 0), .int (nI 0), .int (nI 0), .int (nI 0), .int (nI 0), .long 0])), (q1_, .inl (cI, 16, .inl (fun _ => 0)))] H := hP
  have hD : va_D A [(ra, .inr (1, [.ref hp, .null, .null, .null, .null, .null, .null, .null, .null, .int (nI 0), .int (nI 0), .int (nI 0), .int (nI 0), .int (nI 0), .int (nI 0), .long 0])), (q1_, .inl (cI, 16, .inl (fun _ => 0)))] := hD
  refine va_putF (D := (dC, dI)) (ci := 1) (v := .ref q1_) (ty := (.array .int)) (C := zR_Q) (T := zF_Q) (N := 16) hx hb htz zi_Q zt_Q zt_Q_ok zn_Q hown hK hP hD hS 0 rfl rfl 1 (by decide) (htz _ zq_62) (fun _ h9 => h9) rfl hin rfl (by decide +kernel) rfl rfl (Nat.le_of_ble_eq_true rfl) zd_Q_init_14 (fun H locs hP hD hS => ?_)
  have hP : va_P (dC, dI) zcl [(ra, .inr (1, [.ref hp, .ref q1_, .null, .null, .null, .null, .null, .null, .null, .int (nI 0), .int (nI 0), .int (nI 0), .int (nI 0), .int (nI 0), .int (nI 0), .long 0])), (q1_, .inl (cI, 16, .inl (fun _ => 0)))] H := hP
  have hD : va_D A [(ra, .inr (1, [.ref hp, .ref q1_, .null, .null, .null, .null, .null, .null, .null, .int (nI 0), .int (nI 0), .int (nI 0), .int (nI 0), .int (nI 0), .int (nI 0), .long 0])), (q1_, .inl (cI, 16, .inl (fun _ => 0)))] := hD
  refine lv_aload_n hx hb zd_Q_init_17 rfl (lv_at hl 0 rfl) ?_
  refine lv_bipush (v := (nI 16)) hx hb zd_Q_init_18 (by decide) ?_
  refine va_newa (atype := .int) (a0 := (16, .inl (fun _ => 0))) (n := nI 16) hx hb (htz _ zq_52) (ty := .int) rfl hK hP hD hS hA (fun _ => rfl) (by decide) (by decide) (by decide) (by decide) (by decide) zd_Q_init_20 (fun q2_ cA9 H hK9 hP hD hS => ?_)
  obtain rfl : cI = cA9 := z_same hK9 0 (t1 := 3) rfl rfl (by decide)
  have hP : va_P (dC, dI) zcl [(ra, .inr (1, [.ref hp, .ref q1_, .null, .null, .null, .null, .null, .null, .null, .int (nI 0), .int (nI 0), .int (nI 0), .int (nI 0), .int (nI 0), .int (nI 0), .long 0])), (q1_, .inl (cI, 16, .inl (fun _ => 0))), (q2_, .inl (cI, 16, .inl (fun _ => 0)))] H := hP
  have hD : va_D A [(ra, .inr (1, [.ref hp, .ref q1_, .null, .null, .null, .null, .null, .null, .null, .int (nI 0), .int (nI 0), .int (nI 0), .int (nI 0), .int (nI 0), .int (nI 0), .long 0])), (q1_, .inl (cI, 16, .inl (fun _ => 0))), (q2_, .inl (cI, 16, .inl (fun _ => 0)))] := hD
  refine va_putF (D := (dC, dI)) (ci := 1) (v := .ref q2_) (ty := (.array .int)) (C := zR_Q) (T := zF_Q) (N := 16) hx hb htz zi_Q zt_Q zt_Q_ok zn_Q hown hK hP hD hS 0 rfl rfl 2 (by decide) (htz _ zq_63) (fun _ h9 => h9) rfl hin rfl (by decide +kernel) rfl rfl (Nat.le_of_ble_eq_true rfl) zd_Q_init_22 (fun H locs hP hD hS => ?_)
  have hP : va_P (dC, dI) zcl [(ra, .inr (1, [.ref hp, .ref q1_, .ref q2_, .null, .null, .null, .null, .null, .null, .int (nI 0), .int (nI 0), .int (nI 0), .int (nI 0), .int (nI 0), .int (nI 0), .long 0])), (q1_, .inl (cI, 16, .inl (fun _ => 0))), (q2_, .inl (cI, 16, .inl (fun _ => 0)))] H := hP
  have hD : va_D A [(ra, .inr (1, [.ref hp, .ref q1_, .ref q2_, .null, .null, .null, .null, .null, .null, .int (nI 0), .int (nI 0), .int (nI 0), .int (nI 0), .int (nI 0), .int (nI 0), .long 0])), (q1_, .inl (cI, 16, .inl (fun _ => 0))), (q2_, .inl (cI, 16, .inl (fun _ => 0)))] := hD
  refine lv_aload_n hx hb zd_Q_init_25 rfl (lv_at hl 0 rfl) ?_
  refine lv_bipush (v := (nI 16)) hx hb zd_Q_init_26 (by decide) ?_
  refine va_newa (atype := .int) (a0 := (16, .inl (fun _ => 0))) (n := nI 16) hx hb (htz _ zq_52) (ty := .int) rfl hK hP hD hS hA (fun _ => rfl) (by decide) (by decide) (by decide) (by decide) (by decide) zd_Q_init_28 (fun q3_ cA9 H hK9 hP hD hS => ?_)
  obtain rfl : cI = cA9 := z_same hK9 0 (t1 := 3) rfl rfl (by decide)
  have hP : va_P (dC, dI) zcl [(ra, .inr (1, [.ref hp, .ref q1_, .ref q2_, .null, .null, .null, .null, .null, .null, .int (nI 0), .int (nI 0), .int (nI 0), .int (nI 0), .int (nI 0), .int (nI 0), .long 0])), (q1_, .inl (cI, 16, .inl (fun _ => 0))), (q2_, .inl (cI, 16, .inl (fun _ => 0))), (q3_, .inl (cI, 16, .inl (fun _ => 0)))] H := hP
  have hD : va_D A [(ra, .inr (1, [.ref hp, .ref q1_, .ref q2_, .null, .null, .null, .null, .null, .null, .int (nI 0), .int (nI 0), .int (nI 0), .int (nI 0), .int (nI 0), .int (nI 0), .long 0])), (q1_, .inl (cI, 16, .inl (fun _ => 0))), (q2_, .inl (cI, 16, .inl (fun _ => 0))), (q3_, .inl (cI, 16, .inl (fun _ => 0)))] := hD
  refine va_putF (D := (dC, dI)) (ci := 1) (v := .ref q3_) (ty := (.array .int)) (C := zR_Q) (T := zF_Q) (N := 16) hx hb htz zi_Q zt_Q zt_Q_ok zn_Q hown hK hP hD hS 0 rfl rfl 3 (by decide) (htz _ zq_64) (fun _ h9 => h9) rfl hin rfl (by decide +kernel) rfl rfl (Nat.le_of_ble_eq_true rfl) zd_Q_init_30 (fun H locs hP hD hS => ?_)
  have hP : va_P (dC, dI) zcl [(ra, .inr (1, [.ref hp, .ref q1_, .ref q2_, .ref q3_, .null, .null, .null, .null, .null, .int (nI 0), .int (nI 0), .int (nI 0), .int (nI 0), .int (nI 0), .int (nI 0), .long 0])), (q1_, .inl (cI, 16, .inl (fun _ => 0))), (q2_, .inl (cI, 16, .inl (fun _ => 0))), (q3_, .inl (cI, 16, .inl (fun _ => 0)))] H := hP
  have hD : va_D A [(ra, .inr (1, [.ref hp, .ref q1_, .ref q2_, .ref q3_, .null, .null, .null, .null, .null, .int (nI 0), .int (nI 0), .int (nI 0), .int (nI 0), .int (nI 0), .int (nI 0), .long 0])), (q1_, .inl (cI, 16, .inl (fun _ => 0))), (q2_, .inl (cI, 16, .inl (fun _ => 0))), (q3_, .inl (cI, 16, .inl (fun _ => 0)))] := hD
  refine lv_aload_n hx hb zd_Q_init_33 rfl (lv_at hl 0 rfl) ?_
  refine lv_bipush (v := (nI 16)) hx hb zd_Q_init_34 (by decide) ?_
  refine va_newa (atype := .int) (a0 := (16, .inl (fun _ => 0))) (n := nI 16) hx hb (htz _ zq_52) (ty := .int) rfl hK hP hD hS hA (fun _ => rfl) (by decide) (by decide) (by decide) (by decide) (by decide) zd_Q_init_36 (fun q4_ cA9 H hK9 hP hD hS => ?_)
  obtain rfl : cI = cA9 := z_same hK9 0 (t1 := 3) rfl rfl (by decide)
  have hP : va_P (dC, dI) zcl [(ra, .inr (1, [.ref hp, .ref q1_, .ref q2_, .ref q3_, .null, .null, .null, .null, .null, .int (nI 0), .int (nI 0), .int (nI 0), .int (nI 0), .int (nI 0), .int (nI 0), .long 0])), (q1_, .inl (cI, 16, .inl (fun _ => 0))), (q2_, .inl (cI, 16, .inl (fun _ => 0))), (q3_, .inl (cI, 16, .inl (fun _ => 0))), (q4_, .inl (cI, 16, .inl (fun _ => 0)))] H := hP
  have hD : va_D A [(ra, .inr (1, [.ref hp, .ref q1_, .ref q2_, .ref q3_, .null, .null, .null, .null, .null, .int (nI 0), .int (nI 0), .int (nI 0), .int (nI 0), .int (nI 0), .int (nI 0), .long 0])), (q1_, .inl (cI, 16, .inl (fun _ => 0))), (q2_, .inl (cI, 16, .inl (fun _ => 0))), (q3_, .inl (cI, 16, .inl (fun _ => 0))), (q4_, .inl (cI, 16, .inl (fun _ => 0)))] := hD
  refine va_putF (D := (dC, dI)) (ci := 1) (v := .ref q4_) (ty := (.array .int)) (C := zR_Q) (T := zF_Q) (N := 16) hx hb htz zi_Q zt_Q zt_Q_ok zn_Q hown hK hP hD hS 0 rfl rfl 4 (by decide) (htz _ zq_65) (fun _ h9 => h9) rfl hin rfl (by decide +kernel) rfl rfl (Nat.le_of_ble_eq_true rfl) zd_Q_init_38 (fun H locs hP hD hS => ?_)
  have hP : va_P (dC, dI) zcl [(ra, .inr (1, [.ref hp, .ref q1_, .ref q2_, .ref q3_, .ref q4_, .null, .null, .null, .null, .int (nI 0), .int (nI 0), .int (nI 0), .int (nI 0), .int (nI 0), .int (nI 0), .long 0])), (q1_, .inl (cI, 16, .inl (fun _ => 0))), (q2_, .inl (cI, 16, .inl (fun _ => 0))), (q3_, .inl (cI, 16, .inl (fun _ => 0))), (q4_, .inl (cI, 16, .inl (fun _ => 0)))] H := hP
  have hD : va_D A [(ra, .inr (1, [.ref hp, .ref q1_, .ref q2_, .ref q3_, .ref q4_, .null, .null, .null, .null, .int (nI 0), .int (nI 0), .int (nI 0), .int (nI 0), .int (nI 0), .int (nI 0), .long 0])), (q1_, .inl (cI, 16, .inl (fun _ => 0))), (q2_, .inl (cI, 16, .inl (fun _ => 0))), (q3_, .inl (cI, 16, .inl (fun _ => 0))), (q4_, .inl (cI, 16, .inl (fun _ => 0)))] := hD
  refine lv_aload_n hx hb zd_Q_init_41 rfl (lv_at hl 0 rfl) ?_
  refine lv_bipush (v := (nI 16)) hx hb zd_Q_init_42 (by decide) ?_
  refine va_newa (atype := .int) (a0 := (16, .inl (fun _ => 0))) (n := nI 16) hx hb (htz _ zq_52) (ty := .int) rfl hK hP hD hS hA (fun _ => rfl) (by decide) (by decide) (by decide) (by decide) (by decide) zd_Q_init_44 (fun q5_ cA9 H hK9 hP hD hS => ?_)
  obtain rfl : cI = cA9 := z_same hK9 0 (t1 := 3) rfl rfl (by decide)
  have hP : va_P (dC, dI) zcl [(ra, .inr (1, [.ref hp, .ref q1_, .ref q2_, .ref q3_, .ref q4_, .null, .null, .null, .null, .int (nI 0), .int (nI 0), .int (nI 0), .int (nI 0), .int (nI 0), .int (nI 0), .long 0])), (q1_, .inl (cI, 16, .inl (fun _ => 0))), (q2_, .inl (cI, 16, .inl (fun _ => 0))), (q3_, .inl (cI, 16, .inl (fun _ => 0))), (q4_, .inl (cI, 16, .inl (fun _ => 0))), (q5_, .inl (cI, 16, .inl (fun _ => 0)))] H := hP
  have hD : va_D A [(ra, .inr (1, [.ref hp, .ref q1_, .ref q2_, .ref q3_, .ref q4_, .null, .null, .null, .null, .int (nI 0), .int (nI 0), .int (nI 0), .int (nI 0), .int (nI 0), .int (nI 0), .long 0])), (q1_, .inl (cI, 16, .inl (fun _ => 0))), (q2_, .inl (cI, 16, .inl (fun _ => 0))), (q3_, .inl (cI, 16, .inl (fun _ => 0))), (q4_, .inl (cI, 16, .inl (fun _ => 0))), (q5_, .inl (cI, 16, .inl (fun _ => 0)))] := hD
  refine va_putF (D := (dC, dI)) (ci := 1) (v := .ref q5_) (ty := (.array .int)) (C := zR_Q) (T := zF_Q) (N := 16) hx hb htz zi_Q zt_Q zt_Q_ok zn_Q hown hK hP hD hS 0 rfl rfl 5 (by decide) (htz _ zq_66) (fun _ h9 => h9) rfl hin rfl (by decide +kernel) rfl rfl (Nat.le_of_ble_eq_true rfl) zd_Q_init_46 (fun H locs hP hD hS => ?_)
  have hP : va_P (dC, dI) zcl [(ra, .inr (1, [.ref hp, .ref q1_, .ref q2_, .ref q3_, .ref q4_, .ref q5_, .null, .null, .null, .int (nI 0), .int (nI 0), .int (nI 0), .int (nI 0), .int (nI 0), .int (nI 0), .long 0])), (q1_, .inl (cI, 16, .inl (fun _ => 0))), (q2_, .inl (cI, 16, .inl (fun _ => 0))), (q3_, .inl (cI, 16, .inl (fun _ => 0))), (q4_, .inl (cI, 16, .inl (fun _ => 0))), (q5_, .inl (cI, 16, .inl (fun _ => 0)))] H := hP
  have hD : va_D A [(ra, .inr (1, [.ref hp, .ref q1_, .ref q2_, .ref q3_, .ref q4_, .ref q5_, .null, .null, .null, .int (nI 0), .int (nI 0), .int (nI 0), .int (nI 0), .int (nI 0), .int (nI 0), .long 0])), (q1_, .inl (cI, 16, .inl (fun _ => 0))), (q2_, .inl (cI, 16, .inl (fun _ => 0))), (q3_, .inl (cI, 16, .inl (fun _ => 0))), (q4_, .inl (cI, 16, .inl (fun _ => 0))), (q5_, .inl (cI, 16, .inl (fun _ => 0)))] := hD
  refine lv_aload_n hx hb zd_Q_init_49 rfl (lv_at hl 0 rfl) ?_
  refine lv_bipush (v := (nI 16)) hx hb zd_Q_init_50 (by decide) ?_
  refine va_newa (atype := .int) (a0 := (16, .inl (fun _ => 0))) (n := nI 16) hx hb (htz _ zq_52) (ty := .int) rfl hK hP hD hS hA (fun _ => rfl) (by decide) (by decide) (by decide) (by decide) (by decide) zd_Q_init_52 (fun q6_ cA9 H hK9 hP hD hS => ?_)
  obtain rfl : cI = cA9 := z_same hK9 0 (t1 := 3) rfl rfl (by decide)
  have hP : va_P (dC, dI) zcl [(ra, .inr (1, [.ref hp, .ref q1_, .ref q2_, .ref q3_, .ref q4_, .ref q5_, .null, .null, .null, .int (nI 0), .int (nI 0), .int (nI 0), .int (nI 0), .int (nI 0), .int (nI 0), .long 0])), (q1_, .inl (cI, 16, .inl (fun _ => 0))), (q2_, .inl (cI, 16, .inl (fun _ => 0))), (q3_, .inl (cI, 16, .inl (fun _ => 0))), (q4_, .inl (cI, 16, .inl (fun _ => 0))), (q5_, .inl (cI, 16, .inl (fun _ => 0))), (q6_, .inl (cI, 16, .inl (fun _ => 0)))] H := hP
  have hD : va_D A [(ra, .inr (1, [.ref hp, .ref q1_, .ref q2_, .ref q3_, .ref q4_, .ref q5_, .null, .null, .null, .int (nI 0), .int (nI 0), .int (nI 0), .int (nI 0), .int (nI 0), .int (nI 0), .long 0])), (q1_, .inl (cI, 16, .inl (fun _ => 0))), (q2_, .inl (cI, 16, .inl (fun _ => 0))), (q3_, .inl (cI, 16, .inl (fun _ => 0))), (q4_, .inl (cI, 16, .inl (fun _ => 0))), (q5_, .inl (cI, 16, .inl (fun _ => 0))), (q6_, .inl (cI, 16, .inl (fun _ => 0)))] := hD
  refine va_putF (D := (dC, dI)) (ci := 1) (v := .ref q6_) (ty := (.array .int)) (C := zR_Q) (T := zF_Q) (N := 16) hx hb htz zi_Q zt_Q zt_Q_ok zn_Q hown hK hP hD hS 0 rfl rfl 6 (by decide) (htz _ zq_67) (fun _ h9 => h9) rfl hin rfl (by decide +kernel) rfl rfl (Nat.le_of_ble_eq_true rfl) zd_Q_init_54 (fun H locs hP hD hS => ?_)
  have hP : va_P (dC, dI) zcl [(ra, .inr (1, [.ref hp, .ref q1_, .ref q2_, .ref q3_, .ref q4_, .ref q5_, .ref q6_, .null, .null, .int (nI 0), .int (nI 0), .int (nI 0), .int (nI 0), .int (nI 0), .int (nI 0), .long 0])), (q1_, .inl (cI, 16, .inl (fun _ => 0))), (q2_, .inl (cI, 16, .inl (fun _ => 0))), (q3_, .inl (cI, 16, .inl (fun _ => 0))), (q4_, .inl (cI, 16, .inl (fun _ => 0))), (q5_, .inl (cI, 16, .inl (fun _ => 0))), (q6_, .inl (cI, 16, .inl (fun _ => 0)))] H := hP
  have hD : va_D A [(ra, .inr (1, [.ref hp, .ref q1_, .ref q2_, .ref q3_, .ref q4_, .ref q5_, .ref q6_, .null, .null, .int (nI 0), .int (nI 0), .int (nI 0), .int (nI 0), .int (nI 0), .int (nI 0), .long 0])), (q1_, .inl (cI, 16, .inl (fun _ => 0))), (q2_, .inl (cI, 16, .inl (fun _ => 0))), (q3_, .inl (cI, 16, .inl (fun _ => 0))), (q4_, .inl (cI, 16, .inl (fun _ => 0))), (q5_, .inl (cI, 16, .inl (fun _ => 0))), (q6_, .inl (cI, 16, .inl (fun _ => 0)))] := hD
  refine lv_aload_n hx hb zd_Q_init_57 rfl (lv_at hl 0 rfl) ?_
  refine lv_bipush (v := (nI 16)) hx hb zd_Q_init_58 (by decide) ?_
  refine va_newa (atype := .int) (a0 := (16, .inl (fun _ => 0))) (n := nI 16) hx hb (htz _ zq_52) (ty := .int) rfl hK hP hD hS hA (fun _ => rfl) (by decide) (by decide) (by decide) (by decide) (by decide) zd_Q_init_60 (fun q7_ cA9 H hK9 hP hD hS => ?_)
  obtain rfl : cI = cA9 := z_same hK9 0 (t1 := 3) rfl rfl (by decide)
  have hP : va_P (dC, dI) zcl [(ra, .inr (1, [.ref hp, .ref q1_, .ref q2_, .ref q3_, .ref q4_, .ref q5_, .ref q6_, .null, .null, .int (nI 0), .int (nI 0), .int (nI 0), .int (nI 0), .int (nI 0), .int (nI 0), .long 0])), (q1_, .inl (cI, 16, .inl (fun _ => 0))), (q2_, .inl (cI, 16, .inl (fun _ => 0))), (q3_, .inl (cI, 16, .inl (fun _ => 0))), (q4_, .inl (cI, 16, .inl (fun _ => 0))), (q5_, .inl (cI, 16, .inl (fun _ => 0))), (q6_, .inl (cI, 16, .inl (fun _ => 0))), (q7_, .inl (cI, 16, .inl (fun _ => 0)))] H := hP
  have hD : va_D A [(ra, .inr (1, [.ref hp, .ref q1_, .ref q2_, .ref q3_, .ref q4_, .ref q5_, .ref q6_, .null, .null, .int (nI 0), .int (nI 0), .int (nI 0), .int (nI 0), .int (nI 0), .int (nI 0), .long 0])), (q1_, .inl (cI, 16, .inl (fun _ => 0))), (q2_, .inl (cI, 16, .inl (fun _ => 0))), (q3_, .inl (cI, 16, .inl (fun _ => 0))), (q4_, .inl (cI, 16, .inl (fun _ => 0))), (q5_, .inl (cI, 16, .inl (fun _ => 0))), (q6_, .inl (cI, 16, .inl (fun _ => 0))), (q7_, .inl (cI, 16, .inl (fun _ => 0)))] := hD
  refine va_putF (D := (dC, dI)) (ci := 1) (v := .ref q7_) (ty := (.array .int)) (C := zR_Q) (T := zF_Q) (N := 16) hx hb htz zi_Q zt_Q zt_Q_ok zn_Q hown hK hP hD hS 0 rfl rfl 7 (by decide) (htz _ zq_68) (fun _ h9 => h9) rfl hin rfl (by decide +kernel) rfl rfl (Nat.le_of_ble_eq_true rfl) zd_Q_init_62 (fun H locs hP hD hS => ?_)
  have hP : va_P (dC, dI) zcl [(ra, .inr (1, [.ref hp, .ref q1_, .ref q2_, .ref q3_, .ref q4_, .ref q5_, .ref q6_, .ref q7_, .null, .int (nI 0), .int (nI 0), .int (nI 0), .int (nI 0), .int (nI 0), .int (nI 0), .long 0])), (q1_, .inl (cI, 16, .inl (fun _ => 0))), (q2_, .inl (cI, 16, .inl (fun _ => 0))), (q3_, .inl (cI, 16, .inl (fun _ => 0))), (q4_, .inl (cI, 16, .inl (fun _ => 0))), (q5_, .inl (cI, 16, .inl (fun _ => 0))), (q6_, .inl (cI, 16, .inl (fun _ => 0))), (q7_, .inl (cI, 16, .inl (fun _ => 0)))] H := hP
  have hD : va_D A [(ra, .inr (1, [.ref hp, .ref q1_, .ref q2_, .ref q3_, .ref q4_, .ref q5_, .ref q6_, .ref q7_, .null, .int (nI 0), .int (nI 0), .int (nI 0), .int (nI 0), .int (nI 0), .int (nI 0), .long 0])), (q1_, .inl (cI, 16, .inl (fun _ => 0))), (q2_, .inl (cI, 16, .inl (fun _ => 0))), (q3_, .inl (cI, 16, .inl (fun _ => 0))), (q4_, .inl (cI, 16, .inl (fun _ => 0))), (q5_, .inl (cI, 16, .inl (fun _ => 0))), (q6_, .inl (cI, 16, .inl (fun _ => 0))), (q7_, .inl (cI, 16, .inl (fun _ => 0)))] := hD
  refine lv_aload_n hx hb zd_Q_init_65 rfl (lv_at hl 0 rfl) ?_
  refine lv_bipush (v := (nI 16)) hx hb zd_Q_init_66 (by decide) ?_
  refine va_newa (atype := .int) (a0 := (16, .inl (fun _ => 0))) (n := nI 16) hx hb (htz _ zq_52) (ty := .int) rfl hK hP hD hS hA (fun _ => rfl) (by decide) (by decide) (by decide) (by decide) (by decide) zd_Q_init_68 (fun q8_ cA9 H hK9 hP hD hS => ?_)
  obtain rfl : cI = cA9 := z_same hK9 0 (t1 := 3) rfl rfl (by decide)
  have hP : va_P (dC, dI) zcl [(ra, .inr (1, [.ref hp, .ref q1_, .ref q2_, .ref q3_, .ref q4_, .ref q5_, .ref q6_, .ref q7_, .null, .int (nI 0), .int (nI 0), .int (nI 0), .int (nI 0), .int (nI 0), .int (nI 0), .long 0])), (q1_, .inl (cI, 16, .inl (fun _ => 0))), (q2_, .inl (cI, 16, .inl (fun _ => 0))), (q3_, .inl (cI, 16, .inl (fun _ => 0))), (q4_, .inl (cI, 16, .inl (fun _ => 0))), (q5_, .inl (cI, 16, .inl (fun _ => 0))), (q6_, .inl (cI, 16, .inl (fun _ => 0))), (q7_, .inl (cI, 16, .inl (fun _ => 0))), (q8_, .inl (cI, 16, .inl (fun _ => 0)))] H := hP
  have hD : va_D A [(ra, .inr (1, [.ref hp, .ref q1_, .ref q2_, .ref q3_, .ref q4_, .ref q5_, .ref q6_, .ref q7_, .null, .int (nI 0), .int (nI 0), .int (nI 0), .int (nI 0), .int (nI 0), .int (nI 0), .long 0])), (q1_, .inl (cI, 16, .inl (fun _ => 0))), (q2_, .inl (cI, 16, .inl (fun _ => 0))), (q3_, .inl (cI, 16, .inl (fun _ => 0))), (q4_, .inl (cI, 16, .inl (fun _ => 0))), (q5_, .inl (cI, 16, .inl (fun _ => 0))), (q6_, .inl (cI, 16, .inl (fun _ => 0))), (q7_, .inl (cI, 16, .inl (fun _ => 0))), (q8_, .inl (cI, 16, .inl (fun _ => 0)))] := hD
  refine va_putF (D := (dC, dI)) (ci := 1) (v := .ref q8_) (ty := (.array .int)) (C := zR_Q) (T := zF_Q) (N := 16) hx hb htz zi_Q zt_Q zt_Q_ok zn_Q hown hK hP hD hS 0 rfl rfl 8 (by decide) (htz _ zq_69) (fun _ h9 => h9) rfl hin rfl (by decide +kernel) rfl rfl (Nat.le_of_ble_eq_true rfl) zd_Q_init_70 (fun H locs hP hD hS => ?_)
  have hP : va_P (dC, dI) zcl [(ra, .inr (1, [.ref hp, .ref q1_, .ref q2_, .ref q3_, .ref q4_, .ref q5_, .ref q6_, .ref q7_, .ref q8_, .int (nI 0), .int (nI 0), .int (nI 0), .int (nI 0), .int (nI 0), .int (nI 0), .long 0])), (q1_, .inl (cI, 16, .inl (fun _ => 0))), (q2_, .inl (cI, 16, .inl (fun _ => 0))), (q3_, .inl (cI, 16, .inl (fun _ => 0))), (q4_, .inl (cI, 16, .inl (fun _ => 0))), (q5_, .inl (cI, 16, .inl (fun _ => 0))), (q6_, .inl (cI, 16, .inl (fun _ => 0))), (q7_, .inl (cI, 16, .inl (fun _ => 0))), (q8_, .inl (cI, 16, .inl (fun _ => 0)))] H := hP
  have hD : va_D A [(ra, .inr (1, [.ref hp, .ref q1_, .ref q2_, .ref q3_, .ref q4_, .ref q5_, .ref q6_, .ref q7_, .ref q8_, .int (nI 0), .int (nI 0), .int (nI 0), .int (nI 0), .int (nI 0), .int (nI 0), .long 0])), (q1_, .inl (cI, 16, .inl (fun _ => 0))), (q2_, .inl (cI, 16, .inl (fun _ => 0))), (q3_, .inl (cI, 16, .inl (fun _ => 0))), (q4_, .inl (cI, 16, .inl (fun _ => 0))), (q5_, .inl (cI, 16, .inl (fun _ => 0))), (q6_, .inl (cI, 16, .inl (fun _ => 0))), (q7_, .inl (cI, 16, .inl (fun _ => 0))), (q8_, .inl (cI, 16, .inl (fun _ => 0)))] := hD
  exact z_vret hx hb hr hlocks hP hK hD hS zd_Q_init_73 (by decide) (by decide) ⟨_, _, _, _, _, _, _, _, rfl⟩
set_option maxHeartbeats 4000000 in
set_option maxRecDepth 100000 in
/--  -/
theorem k_Race_begin (l : Launch) (dC : Nat → ClassId) (dI : Nat → Nat → Nat) (cI cJ cZ : ClassId) (ra : Nat) (hp : Nat) (ah : Nat) (am : Nat) (at_ : Nat) (asp : Nat) (afa : Nat) (ado : Nat) (adt : Nat) (aor : Nat) (cr : Nat) (ho : Nat) (nx : Nat) (ba : Nat) (pl : Nat) (tk : Nat) (rr : Int64) (aw : Nat) (av : Nat) (az : Nat) (af : Nat) (n : Nat) (hd : Nat → Int32) (mv : Nat → Int32) (tt : Nat → Int32) (sp : Nat → Int32) (fa : Nat → Int32) (dr : Nat → Int32) (dt : Nat → Int32) (W0 : Nat) (sd : Int64) (hw1 : 1 ≤ W0) (hw2 : W0 ≤ 16) (sz : Nat) : zMv l zy_Q_begin zw_Q_begin ({ frames := 1, cells := 0, slots := 0, locals := 23 }) [.ref ra, .int (nI W0), .long sd] (dC, dI) zcl [(cI, .int), (cJ, .long), (cZ, .boolean)] [(ra, .inr (1, [.ref hp, .ref ah, .ref am, .ref at_, .ref asp, .ref afa, .ref ado, .ref adt, .ref aor, .int (nI cr), .int (nI ho), .int (nI nx), .int (nI ba), .int (nI pl), .int (nI tk), .long rr])), (hp, .inr (0, [.int (nI n), .ref aw, .ref av, .ref az, .ref af])), (ah, .inl (cI, 16, .inl hd)), (am, .inl (cI, 16, .inl mv)), (at_, .inl (cI, 16, .inl tt)), (asp, .inl (cI, 16, .inl sp)), (afa, .inl (cI, 16, .inl fa)), (ado, .inl (cI, 16, .inl dr)), (adt, .inl (cI, 16, .inl dt))] sz (fun (u : va_W) => u = [(ra, .inr (1, [.ref hp, .ref ah, .ref am, .ref at_, .ref asp, .ref afa, .ref ado, .ref adt, .ref aor, .int (nI W0), .int (nI 0), .int (nI 0), .int (nI n), .int (nI 0), .int (nI 0), .long sd])), (hp, .inr (0, [.int (nI n), .ref aw, .ref av, .ref az, .ref af])), (ah, .inl (cI, 16, .inl (fun _ => (-1)))), (am, .inl (cI, 16, .inl (fun _ => 0))), (at_, .inl (cI, 16, .inl (fun _ => 0))), (asp, .inl (cI, 16, .inl (fun _ => 0))), (afa, .inl (cI, 16, .inl (fun _ => 0))), (ado, .inl (cI, 16, .inl (fun _ => (-1)))), (adt, .inl (cI, 16, .inl (fun _ => 0)))]) := by
  refine z_ofv (cc := zc_Q_begin) (maxL := 4) (ret := none) (by decide) rfl (Nat.le_of_ble_eq_true rfl) ?_
  intro p e s m below meth c A ls hx hb hr hml hown htz hlocks hin hA hP hK hD hS hl
  have hown : s.vm.findClass zR_Q = some m.cls := hown
  have hl : lv_has ls 4 [(0, .ref ra), (1, .int (nI W0)), (2, .long sd)] := hl
  refine lv_aload_n hx hb zd_Q_begin_0 rfl (lv_at hl 0 rfl) ?_
  refine va_get (D := (dC, dI)) (ci := 1) (v := .ref ah) (C := zR_Q) (T := zF_Q) (N := 16) hx hb htz zi_Q hown hK hP 0 rfl rfl 1 (by decide) (htz _ zq_62) (fun _ h9 => h9) rfl zd_Q_begin_1 ?_
  refine lv_iconst (v := (-1)) hx hb zd_Q_begin_4 (by decide) ?_
  refine z_Sv (As := [.ref ah, .int (-1)]) (rest := []) (wc := [(ah, .inl (cI, 16, .inl hd))]) (wr := [(ra, .inr (1, [.ref hp, .ref ah, .ref am, .ref at_, .ref asp, .ref afa, .ref ado, .ref adt, .ref aor, .int (nI cr), .int (nI ho), .int (nI nx), .int (nI ba), .int (nI pl), .int (nI tk), .long rr])), (hp, .inr (0, [.int (nI n), .ref aw, .ref av, .ref az, .ref af])), (am, .inl (cI, 16, .inl mv)), (at_, .inl (cI, 16, .inl tt)), (asp, .inl (cI, 16, .inl sp)), (afa, .inl (cI, 16, .inl fa)), (ado, .inl (cI, 16, .inl dr)), (adt, .inl (cI, 16, .inl dt))]) ⟨hx, hb, hml, hown, htz⟩ hK hP hD hS hA (k_Arrays_fill l dC dI cI cJ cZ ah hd (-1) s.heap.size) (zcwS 2 htz zq_35 zq_266 zq_34 zq_4 (by decide +kernel) ⟨Nat.le_of_ble_eq_true rfl, Nat.le_of_ble_eq_true rfl⟩) [2] [0, 1, 3, 4, 5, 6, 7, 8] rfl rfl rfl (by decide) rfl hl.1 rfl (Nat.le_of_ble_eq_true rfl) zd_Q_begin_5 ⟨Nat.le_of_ble_eq_true rfl, Nat.le_of_ble_eq_true rfl⟩ (fun u H locs hw hP hD hS => ?_)
  obtain rfl := hw
  have hP : va_P (dC, dI) zcl [(ra, .inr (1, [.ref hp, .ref ah, .ref am, .ref at_, .ref asp, .ref afa, .ref ado, .ref adt, .ref aor, .int (nI cr), .int (nI ho), .int (nI nx), .int (nI ba), .int (nI pl), .int (nI tk), .long rr])), (hp, .inr (0, [.int (nI n), .ref aw, .ref av, .ref az, .ref af])), (am, .inl (cI, 16, .inl mv)), (at_, .inl (cI, 16, .inl tt)), (asp, .inl (cI, 16, .inl sp)), (afa, .inl (cI, 16, .inl fa)), (ado, .inl (cI, 16, .inl dr)), (adt, .inl (cI, 16, .inl dt)), (ah, .inl (cI, 16, .inl (fun _ => (-1))))] H := hP
  have hD : va_D A [(ra, .inr (1, [.ref hp, .ref ah, .ref am, .ref at_, .ref asp, .ref afa, .ref ado, .ref adt, .ref aor, .int (nI cr), .int (nI ho), .int (nI nx), .int (nI ba), .int (nI pl), .int (nI tk), .long rr])), (hp, .inr (0, [.int (nI n), .ref aw, .ref av, .ref az, .ref af])), (am, .inl (cI, 16, .inl mv)), (at_, .inl (cI, 16, .inl tt)), (asp, .inl (cI, 16, .inl sp)), (afa, .inl (cI, 16, .inl fa)), (ado, .inl (cI, 16, .inl dr)), (adt, .inl (cI, 16, .inl dt)), (ah, .inl (cI, 16, .inl (fun _ => (-1))))] := hD
  refine lv_aload_n hx hb zd_Q_begin_8 rfl (lv_at hl 0 rfl) ?_
  refine va_get (D := (dC, dI)) (ci := 1) (v := .ref am) (C := zR_Q) (T := zF_Q) (N := 16) hx hb htz zi_Q hown hK hP 0 rfl rfl 2 (by decide) (htz _ zq_63) (fun _ h9 => h9) rfl zd_Q_begin_9 ?_
  refine lv_iconst (v := (nI 0)) hx hb zd_Q_begin_12 (by decide) ?_
  refine z_Sv (As := [.ref am, .int (nI 0)]) (rest := []) (wc := [(am, .inl (cI, 16, .inl mv))]) (wr := [(ra, .inr (1, [.ref hp, .ref ah, .ref am, .ref at_, .ref asp, .ref afa, .ref ado, .ref adt, .ref aor, .int (nI cr), .int (nI ho), .int (nI nx), .int (nI ba), .int (nI pl), .int (nI tk), .long rr])), (hp, .inr (0, [.int (nI n), .ref aw, .ref av, .ref az, .ref af])), (at_, .inl (cI, 16, .inl tt)), (asp, .inl (cI, 16, .inl sp)), (afa, .inl (cI, 16, .inl fa)), (ado, .inl (cI, 16, .inl dr)), (adt, .inl (cI, 16, .inl dt)), (ah, .inl (cI, 16, .inl (fun _ => (-1))))]) ⟨hx, hb, hml, hown, htz⟩ hK hP hD hS hA (k_Arrays_fill l dC dI cI cJ cZ am mv (nI 0) H.size) (zcwS 2 htz zq_35 zq_266 zq_34 zq_4 (by decide +kernel) ⟨Nat.le_of_ble_eq_true rfl, Nat.le_of_ble_eq_true rfl⟩) [2] [0, 1, 3, 4, 5, 6, 7, 8] rfl rfl rfl (by decide) rfl hl.1 rfl (Nat.le_of_ble_eq_true rfl) zd_Q_begin_13 ⟨Nat.le_of_ble_eq_true rfl, Nat.le_of_ble_eq_true rfl⟩ (fun u H locs hw hP hD hS => ?_)
  obtain rfl := hw
  have hP : va_P (dC, dI) zcl [(ra, .inr (1, [.ref hp, .ref ah, .ref am, .ref at_, .ref asp, .ref afa, .ref ado, .ref adt, .ref aor, .int (nI cr), .int (nI ho), .int (nI nx), .int (nI ba), .int (nI pl), .int (nI tk), .long rr])), (hp, .inr (0, [.int (nI n), .ref aw, .ref av, .ref az, .ref af])), (at_, .inl (cI, 16, .inl tt)), (asp, .inl (cI, 16, .inl sp)), (afa, .inl (cI, 16, .inl fa)), (ado, .inl (cI, 16, .inl dr)), (adt, .inl (cI, 16, .inl dt)), (ah, .inl (cI, 16, .inl (fun _ => (-1)))), (am, .inl (cI, 16, .inl (fun _ => (nI 0))))] H := hP
  have hD : va_D A [(ra, .inr (1, [.ref hp, .ref ah, .ref am, .ref at_, .ref asp, .ref afa, .ref ado, .ref adt, .ref aor, .int (nI cr), .int (nI ho), .int (nI nx), .int (nI ba), .int (nI pl), .int (nI tk), .long rr])), (hp, .inr (0, [.int (nI n), .ref aw, .ref av, .ref az, .ref af])), (at_, .inl (cI, 16, .inl tt)), (asp, .inl (cI, 16, .inl sp)), (afa, .inl (cI, 16, .inl fa)), (ado, .inl (cI, 16, .inl dr)), (adt, .inl (cI, 16, .inl dt)), (ah, .inl (cI, 16, .inl (fun _ => (-1)))), (am, .inl (cI, 16, .inl (fun _ => (nI 0))))] := hD
  refine lv_aload_n hx hb zd_Q_begin_16 rfl (lv_at hl 0 rfl) ?_
  refine va_get (D := (dC, dI)) (ci := 1) (v := .ref at_) (C := zR_Q) (T := zF_Q) (N := 16) hx hb htz zi_Q hown hK hP 0 rfl rfl 3 (by decide) (htz _ zq_64) (fun _ h9 => h9) rfl zd_Q_begin_17 ?_
  refine lv_iconst (v := (nI 0)) hx hb zd_Q_begin_20 (by decide) ?_
  refine z_Sv (As := [.ref at_, .int (nI 0)]) (rest := []) (wc := [(at_, .inl (cI, 16, .inl tt))]) (wr := [(ra, .inr (1, [.ref hp, .ref ah, .ref am, .ref at_, .ref asp, .ref afa, .ref ado, .ref adt, .ref aor, .int (nI cr), .int (nI ho), .int (nI nx), .int (nI ba), .int (nI pl), .int (nI tk), .long rr])), (hp, .inr (0, [.int (nI n), .ref aw, .ref av, .ref az, .ref af])), (asp, .inl (cI, 16, .inl sp)), (afa, .inl (cI, 16, .inl fa)), (ado, .inl (cI, 16, .inl dr)), (adt, .inl (cI, 16, .inl dt)), (ah, .inl (cI, 16, .inl (fun _ => (-1)))), (am, .inl (cI, 16, .inl (fun _ => (nI 0))))]) ⟨hx, hb, hml, hown, htz⟩ hK hP hD hS hA (k_Arrays_fill l dC dI cI cJ cZ at_ tt (nI 0) H.size) (zcwS 2 htz zq_35 zq_266 zq_34 zq_4 (by decide +kernel) ⟨Nat.le_of_ble_eq_true rfl, Nat.le_of_ble_eq_true rfl⟩) [2] [0, 1, 3, 4, 5, 6, 7, 8] rfl rfl rfl (by decide) rfl hl.1 rfl (Nat.le_of_ble_eq_true rfl) zd_Q_begin_21 ⟨Nat.le_of_ble_eq_true rfl, Nat.le_of_ble_eq_true rfl⟩ (fun u H locs hw hP hD hS => ?_)
  obtain rfl := hw
  have hP : va_P (dC, dI) zcl [(ra, .inr (1, [.ref hp, .ref ah, .ref am, .ref at_, .ref asp, .ref afa, .ref ado, .ref adt, .ref aor, .int (nI cr), .int (nI ho), .int (nI nx), .int (nI ba), .int (nI pl), .int (nI tk), .long rr])), (hp, .inr (0, [.int (nI n), .ref aw, .ref av, .ref az, .ref af])), (asp, .inl (cI, 16, .inl sp)), (afa, .inl (cI, 16, .inl fa)), (ado, .inl (cI, 16, .inl dr)), (adt, .inl (cI, 16, .inl dt)), (ah, .inl (cI, 16, .inl (fun _ => (-1)))), (am, .inl (cI, 16, .inl (fun _ => (nI 0)))), (at_, .inl (cI, 16, .inl (fun _ => (nI 0))))] H := hP
  have hD : va_D A [(ra, .inr (1, [.ref hp, .ref ah, .ref am, .ref at_, .ref asp, .ref afa, .ref ado, .ref adt, .ref aor, .int (nI cr), .int (nI ho), .int (nI nx), .int (nI ba), .int (nI pl), .int (nI tk), .long rr])), (hp, .inr (0, [.int (nI n), .ref aw, .ref av, .ref az, .ref af])), (asp, .inl (cI, 16, .inl sp)), (afa, .inl (cI, 16, .inl fa)), (ado, .inl (cI, 16, .inl dr)), (adt, .inl (cI, 16, .inl dt)), (ah, .inl (cI, 16, .inl (fun _ => (-1)))), (am, .inl (cI, 16, .inl (fun _ => (nI 0)))), (at_, .inl (cI, 16, .inl (fun _ => (nI 0))))] := hD
  refine lv_aload_n hx hb zd_Q_begin_24 rfl (lv_at hl 0 rfl) ?_
  refine va_get (D := (dC, dI)) (ci := 1) (v := .ref asp) (C := zR_Q) (T := zF_Q) (N := 16) hx hb htz zi_Q hown hK hP 0 rfl rfl 4 (by decide) (htz _ zq_65) (fun _ h9 => h9) rfl zd_Q_begin_25 ?_
  refine lv_iconst (v := (nI 0)) hx hb zd_Q_begin_28 (by decide) ?_
  refine z_Sv (As := [.ref asp, .int (nI 0)]) (rest := []) (wc := [(asp, .inl (cI, 16, .inl sp))]) (wr := [(ra, .inr (1, [.ref hp, .ref ah, .ref am, .ref at_, .ref asp, .ref afa, .ref ado, .ref adt, .ref aor, .int (nI cr), .int (nI ho), .int (nI nx), .int (nI ba), .int (nI pl), .int (nI tk), .long rr])), (hp, .inr (0, [.int (nI n), .ref aw, .ref av, .ref az, .ref af])), (afa, .inl (cI, 16, .inl fa)), (ado, .inl (cI, 16, .inl dr)), (adt, .inl (cI, 16, .inl dt)), (ah, .inl (cI, 16, .inl (fun _ => (-1)))), (am, .inl (cI, 16, .inl (fun _ => (nI 0)))), (at_, .inl (cI, 16, .inl (fun _ => (nI 0))))]) ⟨hx, hb, hml, hown, htz⟩ hK hP hD hS hA (k_Arrays_fill l dC dI cI cJ cZ asp sp (nI 0) H.size) (zcwS 2 htz zq_35 zq_266 zq_34 zq_4 (by decide +kernel) ⟨Nat.le_of_ble_eq_true rfl, Nat.le_of_ble_eq_true rfl⟩) [2] [0, 1, 3, 4, 5, 6, 7, 8] rfl rfl rfl (by decide) rfl hl.1 rfl (Nat.le_of_ble_eq_true rfl) zd_Q_begin_29 ⟨Nat.le_of_ble_eq_true rfl, Nat.le_of_ble_eq_true rfl⟩ (fun u H locs hw hP hD hS => ?_)
  obtain rfl := hw
  have hP : va_P (dC, dI) zcl [(ra, .inr (1, [.ref hp, .ref ah, .ref am, .ref at_, .ref asp, .ref afa, .ref ado, .ref adt, .ref aor, .int (nI cr), .int (nI ho), .int (nI nx), .int (nI ba), .int (nI pl), .int (nI tk), .long rr])), (hp, .inr (0, [.int (nI n), .ref aw, .ref av, .ref az, .ref af])), (afa, .inl (cI, 16, .inl fa)), (ado, .inl (cI, 16, .inl dr)), (adt, .inl (cI, 16, .inl dt)), (ah, .inl (cI, 16, .inl (fun _ => (-1)))), (am, .inl (cI, 16, .inl (fun _ => (nI 0)))), (at_, .inl (cI, 16, .inl (fun _ => (nI 0)))), (asp, .inl (cI, 16, .inl (fun _ => (nI 0))))] H := hP
  have hD : va_D A [(ra, .inr (1, [.ref hp, .ref ah, .ref am, .ref at_, .ref asp, .ref afa, .ref ado, .ref adt, .ref aor, .int (nI cr), .int (nI ho), .int (nI nx), .int (nI ba), .int (nI pl), .int (nI tk), .long rr])), (hp, .inr (0, [.int (nI n), .ref aw, .ref av, .ref az, .ref af])), (afa, .inl (cI, 16, .inl fa)), (ado, .inl (cI, 16, .inl dr)), (adt, .inl (cI, 16, .inl dt)), (ah, .inl (cI, 16, .inl (fun _ => (-1)))), (am, .inl (cI, 16, .inl (fun _ => (nI 0)))), (at_, .inl (cI, 16, .inl (fun _ => (nI 0)))), (asp, .inl (cI, 16, .inl (fun _ => (nI 0))))] := hD
  refine lv_aload_n hx hb zd_Q_begin_32 rfl (lv_at hl 0 rfl) ?_
  refine va_get (D := (dC, dI)) (ci := 1) (v := .ref afa) (C := zR_Q) (T := zF_Q) (N := 16) hx hb htz zi_Q hown hK hP 0 rfl rfl 5 (by decide) (htz _ zq_66) (fun _ h9 => h9) rfl zd_Q_begin_33 ?_
  refine lv_iconst (v := (nI 0)) hx hb zd_Q_begin_36 (by decide) ?_
  refine z_Sv (As := [.ref afa, .int (nI 0)]) (rest := []) (wc := [(afa, .inl (cI, 16, .inl fa))]) (wr := [(ra, .inr (1, [.ref hp, .ref ah, .ref am, .ref at_, .ref asp, .ref afa, .ref ado, .ref adt, .ref aor, .int (nI cr), .int (nI ho), .int (nI nx), .int (nI ba), .int (nI pl), .int (nI tk), .long rr])), (hp, .inr (0, [.int (nI n), .ref aw, .ref av, .ref az, .ref af])), (ado, .inl (cI, 16, .inl dr)), (adt, .inl (cI, 16, .inl dt)), (ah, .inl (cI, 16, .inl (fun _ => (-1)))), (am, .inl (cI, 16, .inl (fun _ => (nI 0)))), (at_, .inl (cI, 16, .inl (fun _ => (nI 0)))), (asp, .inl (cI, 16, .inl (fun _ => (nI 0))))]) ⟨hx, hb, hml, hown, htz⟩ hK hP hD hS hA (k_Arrays_fill l dC dI cI cJ cZ afa fa (nI 0) H.size) (zcwS 2 htz zq_35 zq_266 zq_34 zq_4 (by decide +kernel) ⟨Nat.le_of_ble_eq_true rfl, Nat.le_of_ble_eq_true rfl⟩) [2] [0, 1, 3, 4, 5, 6, 7, 8] rfl rfl rfl (by decide) rfl hl.1 rfl (Nat.le_of_ble_eq_true rfl) zd_Q_begin_37 ⟨Nat.le_of_ble_eq_true rfl, Nat.le_of_ble_eq_true rfl⟩ (fun u H locs hw hP hD hS => ?_)
  obtain rfl := hw
  have hP : va_P (dC, dI) zcl [(ra, .inr (1, [.ref hp, .ref ah, .ref am, .ref at_, .ref asp, .ref afa, .ref ado, .ref adt, .ref aor, .int (nI cr), .int (nI ho), .int (nI nx), .int (nI ba), .int (nI pl), .int (nI tk), .long rr])), (hp, .inr (0, [.int (nI n), .ref aw, .ref av, .ref az, .ref af])), (ado, .inl (cI, 16, .inl dr)), (adt, .inl (cI, 16, .inl dt)), (ah, .inl (cI, 16, .inl (fun _ => (-1)))), (am, .inl (cI, 16, .inl (fun _ => (nI 0)))), (at_, .inl (cI, 16, .inl (fun _ => (nI 0)))), (asp, .inl (cI, 16, .inl (fun _ => (nI 0)))), (afa, .inl (cI, 16, .inl (fun _ => (nI 0))))] H := hP
  have hD : va_D A [(ra, .inr (1, [.ref hp, .ref ah, .ref am, .ref at_, .ref asp, .ref afa, .ref ado, .ref adt, .ref aor, .int (nI cr), .int (nI ho), .int (nI nx), .int (nI ba), .int (nI pl), .int (nI tk), .long rr])), (hp, .inr (0, [.int (nI n), .ref aw, .ref av, .ref az, .ref af])), (ado, .inl (cI, 16, .inl dr)), (adt, .inl (cI, 16, .inl dt)), (ah, .inl (cI, 16, .inl (fun _ => (-1)))), (am, .inl (cI, 16, .inl (fun _ => (nI 0)))), (at_, .inl (cI, 16, .inl (fun _ => (nI 0)))), (asp, .inl (cI, 16, .inl (fun _ => (nI 0)))), (afa, .inl (cI, 16, .inl (fun _ => (nI 0))))] := hD
  refine lv_aload_n hx hb zd_Q_begin_40 rfl (lv_at hl 0 rfl) ?_
  refine va_get (D := (dC, dI)) (ci := 1) (v := .ref ado) (C := zR_Q) (T := zF_Q) (N := 16) hx hb htz zi_Q hown hK hP 0 rfl rfl 6 (by decide) (htz _ zq_67) (fun _ h9 => h9) rfl zd_Q_begin_41 ?_
  refine lv_iconst (v := (-1)) hx hb zd_Q_begin_44 (by decide) ?_
  refine z_Sv (As := [.ref ado, .int (-1)]) (rest := []) (wc := [(ado, .inl (cI, 16, .inl dr))]) (wr := [(ra, .inr (1, [.ref hp, .ref ah, .ref am, .ref at_, .ref asp, .ref afa, .ref ado, .ref adt, .ref aor, .int (nI cr), .int (nI ho), .int (nI nx), .int (nI ba), .int (nI pl), .int (nI tk), .long rr])), (hp, .inr (0, [.int (nI n), .ref aw, .ref av, .ref az, .ref af])), (adt, .inl (cI, 16, .inl dt)), (ah, .inl (cI, 16, .inl (fun _ => (-1)))), (am, .inl (cI, 16, .inl (fun _ => (nI 0)))), (at_, .inl (cI, 16, .inl (fun _ => (nI 0)))), (asp, .inl (cI, 16, .inl (fun _ => (nI 0)))), (afa, .inl (cI, 16, .inl (fun _ => (nI 0))))]) ⟨hx, hb, hml, hown, htz⟩ hK hP hD hS hA (k_Arrays_fill l dC dI cI cJ cZ ado dr (-1) H.size) (zcwS 2 htz zq_35 zq_266 zq_34 zq_4 (by decide +kernel) ⟨Nat.le_of_ble_eq_true rfl, Nat.le_of_ble_eq_true rfl⟩) [2] [0, 1, 3, 4, 5, 6, 7, 8] rfl rfl rfl (by decide) rfl hl.1 rfl (Nat.le_of_ble_eq_true rfl) zd_Q_begin_45 ⟨Nat.le_of_ble_eq_true rfl, Nat.le_of_ble_eq_true rfl⟩ (fun u H locs hw hP hD hS => ?_)
  obtain rfl := hw
  have hP : va_P (dC, dI) zcl [(ra, .inr (1, [.ref hp, .ref ah, .ref am, .ref at_, .ref asp, .ref afa, .ref ado, .ref adt, .ref aor, .int (nI cr), .int (nI ho), .int (nI nx), .int (nI ba), .int (nI pl), .int (nI tk), .long rr])), (hp, .inr (0, [.int (nI n), .ref aw, .ref av, .ref az, .ref af])), (adt, .inl (cI, 16, .inl dt)), (ah, .inl (cI, 16, .inl (fun _ => (-1)))), (am, .inl (cI, 16, .inl (fun _ => (nI 0)))), (at_, .inl (cI, 16, .inl (fun _ => (nI 0)))), (asp, .inl (cI, 16, .inl (fun _ => (nI 0)))), (afa, .inl (cI, 16, .inl (fun _ => (nI 0)))), (ado, .inl (cI, 16, .inl (fun _ => (-1))))] H := hP
  have hD : va_D A [(ra, .inr (1, [.ref hp, .ref ah, .ref am, .ref at_, .ref asp, .ref afa, .ref ado, .ref adt, .ref aor, .int (nI cr), .int (nI ho), .int (nI nx), .int (nI ba), .int (nI pl), .int (nI tk), .long rr])), (hp, .inr (0, [.int (nI n), .ref aw, .ref av, .ref az, .ref af])), (adt, .inl (cI, 16, .inl dt)), (ah, .inl (cI, 16, .inl (fun _ => (-1)))), (am, .inl (cI, 16, .inl (fun _ => (nI 0)))), (at_, .inl (cI, 16, .inl (fun _ => (nI 0)))), (asp, .inl (cI, 16, .inl (fun _ => (nI 0)))), (afa, .inl (cI, 16, .inl (fun _ => (nI 0)))), (ado, .inl (cI, 16, .inl (fun _ => (-1))))] := hD
  refine lv_aload_n hx hb zd_Q_begin_48 rfl (lv_at hl 0 rfl) ?_
  refine va_get (D := (dC, dI)) (ci := 1) (v := .ref adt) (C := zR_Q) (T := zF_Q) (N := 16) hx hb htz zi_Q hown hK hP 0 rfl rfl 7 (by decide) (htz _ zq_68) (fun _ h9 => h9) rfl zd_Q_begin_49 ?_
  refine lv_iconst (v := (nI 0)) hx hb zd_Q_begin_52 (by decide) ?_
  refine z_Sv (As := [.ref adt, .int (nI 0)]) (rest := []) (wc := [(adt, .inl (cI, 16, .inl dt))]) (wr := [(ra, .inr (1, [.ref hp, .ref ah, .ref am, .ref at_, .ref asp, .ref afa, .ref ado, .ref adt, .ref aor, .int (nI cr), .int (nI ho), .int (nI nx), .int (nI ba), .int (nI pl), .int (nI tk), .long rr])), (hp, .inr (0, [.int (nI n), .ref aw, .ref av, .ref az, .ref af])), (ah, .inl (cI, 16, .inl (fun _ => (-1)))), (am, .inl (cI, 16, .inl (fun _ => (nI 0)))), (at_, .inl (cI, 16, .inl (fun _ => (nI 0)))), (asp, .inl (cI, 16, .inl (fun _ => (nI 0)))), (afa, .inl (cI, 16, .inl (fun _ => (nI 0)))), (ado, .inl (cI, 16, .inl (fun _ => (-1))))]) ⟨hx, hb, hml, hown, htz⟩ hK hP hD hS hA (k_Arrays_fill l dC dI cI cJ cZ adt dt (nI 0) H.size) (zcwS 2 htz zq_35 zq_266 zq_34 zq_4 (by decide +kernel) ⟨Nat.le_of_ble_eq_true rfl, Nat.le_of_ble_eq_true rfl⟩) [2] [0, 1, 3, 4, 5, 6, 7, 8] rfl rfl rfl (by decide) rfl hl.1 rfl (Nat.le_of_ble_eq_true rfl) zd_Q_begin_53 ⟨Nat.le_of_ble_eq_true rfl, Nat.le_of_ble_eq_true rfl⟩ (fun u H locs hw hP hD hS => ?_)
  obtain rfl := hw
  have hP : va_P (dC, dI) zcl [(ra, .inr (1, [.ref hp, .ref ah, .ref am, .ref at_, .ref asp, .ref afa, .ref ado, .ref adt, .ref aor, .int (nI cr), .int (nI ho), .int (nI nx), .int (nI ba), .int (nI pl), .int (nI tk), .long rr])), (hp, .inr (0, [.int (nI n), .ref aw, .ref av, .ref az, .ref af])), (ah, .inl (cI, 16, .inl (fun _ => (-1)))), (am, .inl (cI, 16, .inl (fun _ => (nI 0)))), (at_, .inl (cI, 16, .inl (fun _ => (nI 0)))), (asp, .inl (cI, 16, .inl (fun _ => (nI 0)))), (afa, .inl (cI, 16, .inl (fun _ => (nI 0)))), (ado, .inl (cI, 16, .inl (fun _ => (-1)))), (adt, .inl (cI, 16, .inl (fun _ => (nI 0))))] H := hP
  have hD : va_D A [(ra, .inr (1, [.ref hp, .ref ah, .ref am, .ref at_, .ref asp, .ref afa, .ref ado, .ref adt, .ref aor, .int (nI cr), .int (nI ho), .int (nI nx), .int (nI ba), .int (nI pl), .int (nI tk), .long rr])), (hp, .inr (0, [.int (nI n), .ref aw, .ref av, .ref az, .ref af])), (ah, .inl (cI, 16, .inl (fun _ => (-1)))), (am, .inl (cI, 16, .inl (fun _ => (nI 0)))), (at_, .inl (cI, 16, .inl (fun _ => (nI 0)))), (asp, .inl (cI, 16, .inl (fun _ => (nI 0)))), (afa, .inl (cI, 16, .inl (fun _ => (nI 0)))), (ado, .inl (cI, 16, .inl (fun _ => (-1)))), (adt, .inl (cI, 16, .inl (fun _ => (nI 0))))] := hD
  refine lv_aload_n hx hb zd_Q_begin_56 rfl (lv_at hl 0 rfl) ?_
  refine lv_iconst (v := (nI 1)) hx hb zd_Q_begin_57 (by decide) ?_
  refine lv_bipush (v := (nI 16)) hx hb zd_Q_begin_58 (by decide) ?_
  refine lv_iload_n hx hb zd_Q_begin_60 rfl (lv_at hl 1 rfl) ?_
  refine va_mmin hx hb (hml.trans hl.1.symm) hown (htz _ zq_267) (htz _ zq_28) (htz _ zq_3) (htz _ zq_29) (Nat.le_of_ble_eq_true rfl) (Nat.le_of_ble_eq_true rfl) (Nat.le_of_ble_eq_true rfl) (Nat.le_of_ble_eq_true rfl) zd_Q_begin_61 ?_
  refine va_mmax hx hb (hml.trans hl.1.symm) hown (htz _ zq_268) (htz _ zq_31) (htz _ zq_3) (htz _ zq_32) (Nat.le_of_ble_eq_true rfl) (Nat.le_of_ble_eq_true rfl) (Nat.le_of_ble_eq_true rfl) (Nat.le_of_ble_eq_true rfl) zd_Q_begin_64 ?_
  refine z_topi (y := nI W0) (z_crew hw1 hw2) ?_
  refine va_put (D := (dC, dI)) (ci := 1) (v := .int (nI W0)) (ty := .int) (C := zR_Q) (T := zF_Q) (N := 16) hx hb htz zi_Q zt_Q zt_Q_ok zn_Q hown hK hP hD hS 0 rfl rfl 9 (by decide) (htz _ zq_70) (fun _ h9 => h9) rfl (by decide +kernel) rfl rfl (Nat.le_of_ble_eq_true rfl) zd_Q_begin_67 (fun H locs hP hD hS => ?_)
  have hP : va_P (dC, dI) zcl [(ra, .inr (1, [.ref hp, .ref ah, .ref am, .ref at_, .ref asp, .ref afa, .ref ado, .ref adt, .ref aor, .int (nI W0), .int (nI ho), .int (nI nx), .int (nI ba), .int (nI pl), .int (nI tk), .long rr])), (hp, .inr (0, [.int (nI n), .ref aw, .ref av, .ref az, .ref af])), (ah, .inl (cI, 16, .inl (fun _ => (-1)))), (am, .inl (cI, 16, .inl (fun _ => (nI 0)))), (at_, .inl (cI, 16, .inl (fun _ => (nI 0)))), (asp, .inl (cI, 16, .inl (fun _ => (nI 0)))), (afa, .inl (cI, 16, .inl (fun _ => (nI 0)))), (ado, .inl (cI, 16, .inl (fun _ => (-1)))), (adt, .inl (cI, 16, .inl (fun _ => (nI 0))))] H := hP
  have hD : va_D A [(ra, .inr (1, [.ref hp, .ref ah, .ref am, .ref at_, .ref asp, .ref afa, .ref ado, .ref adt, .ref aor, .int (nI W0), .int (nI ho), .int (nI nx), .int (nI ba), .int (nI pl), .int (nI tk), .long rr])), (hp, .inr (0, [.int (nI n), .ref aw, .ref av, .ref az, .ref af])), (ah, .inl (cI, 16, .inl (fun _ => (-1)))), (am, .inl (cI, 16, .inl (fun _ => (nI 0)))), (at_, .inl (cI, 16, .inl (fun _ => (nI 0)))), (asp, .inl (cI, 16, .inl (fun _ => (nI 0)))), (afa, .inl (cI, 16, .inl (fun _ => (nI 0)))), (ado, .inl (cI, 16, .inl (fun _ => (-1)))), (adt, .inl (cI, 16, .inl (fun _ => (nI 0))))] := hD
  refine lv_aload_n hx hb zd_Q_begin_70 rfl (lv_at hl 0 rfl) ?_
  refine lv_iconst (v := (nI 0)) hx hb zd_Q_begin_71 (by decide) ?_
  refine va_put (D := (dC, dI)) (ci := 1) (v := .int (nI 0)) (ty := .int) (C := zR_Q) (T := zF_Q) (N := 16) hx hb htz zi_Q zt_Q zt_Q_ok zn_Q hown hK hP hD hS 0 rfl rfl 10 (by decide) (htz _ zq_71) (fun _ h9 => h9) rfl (by decide +kernel) rfl rfl (Nat.le_of_ble_eq_true rfl) zd_Q_begin_72 (fun H locs hP hD hS => ?_)
  have hP : va_P (dC, dI) zcl [(ra, .inr (1, [.ref hp, .ref ah, .ref am, .ref at_, .ref asp, .ref afa, .ref ado, .ref adt, .ref aor, .int (nI W0), .int (nI 0), .int (nI nx), .int (nI ba), .int (nI pl), .int (nI tk), .long rr])), (hp, .inr (0, [.int (nI n), .ref aw, .ref av, .ref az, .ref af])), (ah, .inl (cI, 16, .inl (fun _ => (-1)))), (am, .inl (cI, 16, .inl (fun _ => (nI 0)))), (at_, .inl (cI, 16, .inl (fun _ => (nI 0)))), (asp, .inl (cI, 16, .inl (fun _ => (nI 0)))), (afa, .inl (cI, 16, .inl (fun _ => (nI 0)))), (ado, .inl (cI, 16, .inl (fun _ => (-1)))), (adt, .inl (cI, 16, .inl (fun _ => (nI 0))))] H := hP
  have hD : va_D A [(ra, .inr (1, [.ref hp, .ref ah, .ref am, .ref at_, .ref asp, .ref afa, .ref ado, .ref adt, .ref aor, .int (nI W0), .int (nI 0), .int (nI nx), .int (nI ba), .int (nI pl), .int (nI tk), .long rr])), (hp, .inr (0, [.int (nI n), .ref aw, .ref av, .ref az, .ref af])), (ah, .inl (cI, 16, .inl (fun _ => (-1)))), (am, .inl (cI, 16, .inl (fun _ => (nI 0)))), (at_, .inl (cI, 16, .inl (fun _ => (nI 0)))), (asp, .inl (cI, 16, .inl (fun _ => (nI 0)))), (afa, .inl (cI, 16, .inl (fun _ => (nI 0)))), (ado, .inl (cI, 16, .inl (fun _ => (-1)))), (adt, .inl (cI, 16, .inl (fun _ => (nI 0))))] := hD
  refine lv_aload_n hx hb zd_Q_begin_75 rfl (lv_at hl 0 rfl) ?_
  refine lv_iconst (v := (nI 0)) hx hb zd_Q_begin_76 (by decide) ?_
  refine va_put (D := (dC, dI)) (ci := 1) (v := .int (nI 0)) (ty := .int) (C := zR_Q) (T := zF_Q) (N := 16) hx hb htz zi_Q zt_Q zt_Q_ok zn_Q hown hK hP hD hS 0 rfl rfl 11 (by decide) (htz _ zq_72) (fun _ h9 => h9) rfl (by decide +kernel) rfl rfl (Nat.le_of_ble_eq_true rfl) zd_Q_begin_77 (fun H locs hP hD hS => ?_)
  have hP : va_P (dC, dI) zcl [(ra, .inr (1, [.ref hp, .ref ah, .ref am, .ref at_, .ref asp, .ref afa, .ref ado, .ref adt, .ref aor, .int (nI W0), .int (nI 0), .int (nI 0), .int (nI ba), .int (nI pl), .int (nI tk), .long rr])), (hp, .inr (0, [.int (nI n), .ref aw, .ref av, .ref az, .ref af])), (ah, .inl (cI, 16, .inl (fun _ => (-1)))), (am, .inl (cI, 16, .inl (fun _ => (nI 0)))), (at_, .inl (cI, 16, .inl (fun _ => (nI 0)))), (asp, .inl (cI, 16, .inl (fun _ => (nI 0)))), (afa, .inl (cI, 16, .inl (fun _ => (nI 0)))), (ado, .inl (cI, 16, .inl (fun _ => (-1)))), (adt, .inl (cI, 16, .inl (fun _ => (nI 0))))] H := hP
  have hD : va_D A [(ra, .inr (1, [.ref hp, .ref ah, .ref am, .ref at_, .ref asp, .ref afa, .ref ado, .ref adt, .ref aor, .int (nI W0), .int (nI 0), .int (nI 0), .int (nI ba), .int (nI pl), .int (nI tk), .long rr])), (hp, .inr (0, [.int (nI n), .ref aw, .ref av, .ref az, .ref af])), (ah, .inl (cI, 16, .inl (fun _ => (-1)))), (am, .inl (cI, 16, .inl (fun _ => (nI 0)))), (at_, .inl (cI, 16, .inl (fun _ => (nI 0)))), (asp, .inl (cI, 16, .inl (fun _ => (nI 0)))), (afa, .inl (cI, 16, .inl (fun _ => (nI 0)))), (ado, .inl (cI, 16, .inl (fun _ => (-1)))), (adt, .inl (cI, 16, .inl (fun _ => (nI 0))))] := hD
  refine lv_aload_n hx hb zd_Q_begin_80 rfl (lv_at hl 0 rfl) ?_
  refine lv_aload_n hx hb zd_Q_begin_81 rfl (lv_at hl 0 rfl) ?_
  refine va_get (D := (dC, dI)) (ci := 1) (v := .ref hp) (C := zR_Q) (T := zF_Q) (N := 16) hx hb htz zi_Q hown hK hP 0 rfl rfl 0 (by decide) (htz _ zq_61) (fun _ h9 => h9) rfl zd_Q_begin_82 ?_
  refine z_Vi (As := []) (rest := [.ref ra]) (wc := [(hp, .inr (0, [.int (nI n), .ref aw, .ref av, .ref az, .ref af]))]) (wr := [(ra, .inr (1, [.ref hp, .ref ah, .ref am, .ref at_, .ref asp, .ref afa, .ref ado, .ref adt, .ref aor, .int (nI W0), .int (nI 0), .int (nI 0), .int (nI ba), .int (nI pl), .int (nI tk), .long rr])), (ah, .inl (cI, 16, .inl (fun _ => (-1)))), (am, .inl (cI, 16, .inl (fun _ => (nI 0)))), (at_, .inl (cI, 16, .inl (fun _ => (nI 0)))), (asp, .inl (cI, 16, .inl (fun _ => (nI 0)))), (afa, .inl (cI, 16, .inl (fun _ => (nI 0)))), (ado, .inl (cI, 16, .inl (fun _ => (-1)))), (adt, .inl (cI, 16, .inl (fun _ => (nI 0))))]) ⟨hx, hb, hml, hown, htz⟩ hK hP hD hS hA (k_Plan_size l dC dI cI cJ cZ hp aw av az af n H.size) (zcwV 0 htz zq_127 zq_269 zq_125 zq_126 zq_2 (by decide +kernel) ⟨Nat.le_of_ble_eq_true rfl, Nat.le_of_ble_eq_true rfl⟩) 1 0 rfl rfl [1] [0, 2, 3, 4, 5, 6, 7, 8] rfl rfl rfl (by decide) rfl hl.1 rfl (Nat.le_of_ble_eq_true rfl) zd_Q_begin_85 ⟨Nat.le_of_ble_eq_true rfl, Nat.le_of_ble_eq_true rfl⟩ (fun r u H locs hw hP hD hS => ?_)
  obtain ⟨rfl, rfl⟩ := hw
  have hP : va_P (dC, dI) zcl [(ra, .inr (1, [.ref hp, .ref ah, .ref am, .ref at_, .ref asp, .ref afa, .ref ado, .ref adt, .ref aor, .int (nI W0), .int (nI 0), .int (nI 0), .int (nI ba), .int (nI pl), .int (nI tk), .long rr])), (ah, .inl (cI, 16, .inl (fun _ => (-1)))), (am, .inl (cI, 16, .inl (fun _ => (nI 0)))), (at_, .inl (cI, 16, .inl (fun _ => (nI 0)))), (asp, .inl (cI, 16, .inl (fun _ => (nI 0)))), (afa, .inl (cI, 16, .inl (fun _ => (nI 0)))), (ado, .inl (cI, 16, .inl (fun _ => (-1)))), (adt, .inl (cI, 16, .inl (fun _ => (nI 0)))), (hp, .inr (0, [.int (nI n), .ref aw, .ref av, .ref az, .ref af]))] H := hP
  have hD : va_D A [(ra, .inr (1, [.ref hp, .ref ah, .ref am, .ref at_, .ref asp, .ref afa, .ref ado, .ref adt, .ref aor, .int (nI W0), .int (nI 0), .int (nI 0), .int (nI ba), .int (nI pl), .int (nI tk), .long rr])), (ah, .inl (cI, 16, .inl (fun _ => (-1)))), (am, .inl (cI, 16, .inl (fun _ => (nI 0)))), (at_, .inl (cI, 16, .inl (fun _ => (nI 0)))), (asp, .inl (cI, 16, .inl (fun _ => (nI 0)))), (afa, .inl (cI, 16, .inl (fun _ => (nI 0)))), (ado, .inl (cI, 16, .inl (fun _ => (-1)))), (adt, .inl (cI, 16, .inl (fun _ => (nI 0)))), (hp, .inr (0, [.int (nI n), .ref aw, .ref av, .ref az, .ref af]))] := hD
  refine va_put (D := (dC, dI)) (ci := 1) (v := .int (nI n)) (ty := .int) (C := zR_Q) (T := zF_Q) (N := 16) hx hb htz zi_Q zt_Q zt_Q_ok zn_Q hown hK hP hD hS 0 rfl rfl 12 (by decide) (htz _ zq_73) (fun _ h9 => h9) rfl (by decide +kernel) rfl rfl (Nat.le_of_ble_eq_true rfl) zd_Q_begin_88 (fun H locs hP hD hS => ?_)
  have hP : va_P (dC, dI) zcl [(ra, .inr (1, [.ref hp, .ref ah, .ref am, .ref at_, .ref asp, .ref afa, .ref ado, .ref adt, .ref aor, .int (nI W0), .int (nI 0), .int (nI 0), .int (nI n), .int (nI pl), .int (nI tk), .long rr])), (ah, .inl (cI, 16, .inl (fun _ => (-1)))), (am, .inl (cI, 16, .inl (fun _ => (nI 0)))), (at_, .inl (cI, 16, .inl (fun _ => (nI 0)))), (asp, .inl (cI, 16, .inl (fun _ => (nI 0)))), (afa, .inl (cI, 16, .inl (fun _ => (nI 0)))), (ado, .inl (cI, 16, .inl (fun _ => (-1)))), (adt, .inl (cI, 16, .inl (fun _ => (nI 0)))), (hp, .inr (0, [.int (nI n), .ref aw, .ref av, .ref az, .ref af]))] H := hP
  have hD : va_D A [(ra, .inr (1, [.ref hp, .ref ah, .ref am, .ref at_, .ref asp, .ref afa, .ref ado, .ref adt, .ref aor, .int (nI W0), .int (nI 0), .int (nI 0), .int (nI n), .int (nI pl), .int (nI tk), .long rr])), (ah, .inl (cI, 16, .inl (fun _ => (-1)))), (am, .inl (cI, 16, .inl (fun _ => (nI 0)))), (at_, .inl (cI, 16, .inl (fun _ => (nI 0)))), (asp, .inl (cI, 16, .inl (fun _ => (nI 0)))), (afa, .inl (cI, 16, .inl (fun _ => (nI 0)))), (ado, .inl (cI, 16, .inl (fun _ => (-1)))), (adt, .inl (cI, 16, .inl (fun _ => (nI 0)))), (hp, .inr (0, [.int (nI n), .ref aw, .ref av, .ref az, .ref af]))] := hD
  refine lv_aload_n hx hb zd_Q_begin_91 rfl (lv_at hl 0 rfl) ?_
  refine lv_iconst (v := (nI 0)) hx hb zd_Q_begin_92 (by decide) ?_
  refine va_put (D := (dC, dI)) (ci := 1) (v := .int (nI 0)) (ty := .int) (C := zR_Q) (T := zF_Q) (N := 16) hx hb htz zi_Q zt_Q zt_Q_ok zn_Q hown hK hP hD hS 0 rfl rfl 13 (by decide) (htz _ zq_74) (fun _ h9 => h9) rfl (by decide +kernel) rfl rfl (Nat.le_of_ble_eq_true rfl) zd_Q_begin_93 (fun H locs hP hD hS => ?_)
  have hP : va_P (dC, dI) zcl [(ra, .inr (1, [.ref hp, .ref ah, .ref am, .ref at_, .ref asp, .ref afa, .ref ado, .ref adt, .ref aor, .int (nI W0), .int (nI 0), .int (nI 0), .int (nI n), .int (nI 0), .int (nI tk), .long rr])), (ah, .inl (cI, 16, .inl (fun _ => (-1)))), (am, .inl (cI, 16, .inl (fun _ => (nI 0)))), (at_, .inl (cI, 16, .inl (fun _ => (nI 0)))), (asp, .inl (cI, 16, .inl (fun _ => (nI 0)))), (afa, .inl (cI, 16, .inl (fun _ => (nI 0)))), (ado, .inl (cI, 16, .inl (fun _ => (-1)))), (adt, .inl (cI, 16, .inl (fun _ => (nI 0)))), (hp, .inr (0, [.int (nI n), .ref aw, .ref av, .ref az, .ref af]))] H := hP
  have hD : va_D A [(ra, .inr (1, [.ref hp, .ref ah, .ref am, .ref at_, .ref asp, .ref afa, .ref ado, .ref adt, .ref aor, .int (nI W0), .int (nI 0), .int (nI 0), .int (nI n), .int (nI 0), .int (nI tk), .long rr])), (ah, .inl (cI, 16, .inl (fun _ => (-1)))), (am, .inl (cI, 16, .inl (fun _ => (nI 0)))), (at_, .inl (cI, 16, .inl (fun _ => (nI 0)))), (asp, .inl (cI, 16, .inl (fun _ => (nI 0)))), (afa, .inl (cI, 16, .inl (fun _ => (nI 0)))), (ado, .inl (cI, 16, .inl (fun _ => (-1)))), (adt, .inl (cI, 16, .inl (fun _ => (nI 0)))), (hp, .inr (0, [.int (nI n), .ref aw, .ref av, .ref az, .ref af]))] := hD
  refine lv_aload_n hx hb zd_Q_begin_96 rfl (lv_at hl 0 rfl) ?_
  refine lv_iconst (v := (nI 0)) hx hb zd_Q_begin_97 (by decide) ?_
  refine va_put (D := (dC, dI)) (ci := 1) (v := .int (nI 0)) (ty := .int) (C := zR_Q) (T := zF_Q) (N := 16) hx hb htz zi_Q zt_Q zt_Q_ok zn_Q hown hK hP hD hS 0 rfl rfl 14 (by decide) (htz _ zq_75) (fun _ h9 => h9) rfl (by decide +kernel) rfl rfl (Nat.le_of_ble_eq_true rfl) zd_Q_begin_98 (fun H locs hP hD hS => ?_)
  have hP : va_P (dC, dI) zcl [(ra, .inr (1, [.ref hp, .ref ah, .ref am, .ref at_, .ref asp, .ref afa, .ref ado, .ref adt, .ref aor, .int (nI W0), .int (nI 0), .int (nI 0), .int (nI n), .int (nI 0), .int (nI 0), .long rr])), (ah, .inl (cI, 16, .inl (fun _ => (-1)))), (am, .inl (cI, 16, .inl (fun _ => (nI 0)))), (at_, .inl (cI, 16, .inl (fun _ => (nI 0)))), (asp, .inl (cI, 16, .inl (fun _ => (nI 0)))), (afa, .inl (cI, 16, .inl (fun _ => (nI 0)))), (ado, .inl (cI, 16, .inl (fun _ => (-1)))), (adt, .inl (cI, 16, .inl (fun _ => (nI 0)))), (hp, .inr (0, [.int (nI n), .ref aw, .ref av, .ref az, .ref af]))] H := hP
  have hD : va_D A [(ra, .inr (1, [.ref hp, .ref ah, .ref am, .ref at_, .ref asp, .ref afa, .ref ado, .ref adt, .ref aor, .int (nI W0), .int (nI 0), .int (nI 0), .int (nI n), .int (nI 0), .int (nI 0), .long rr])), (ah, .inl (cI, 16, .inl (fun _ => (-1)))), (am, .inl (cI, 16, .inl (fun _ => (nI 0)))), (at_, .inl (cI, 16, .inl (fun _ => (nI 0)))), (asp, .inl (cI, 16, .inl (fun _ => (nI 0)))), (afa, .inl (cI, 16, .inl (fun _ => (nI 0)))), (ado, .inl (cI, 16, .inl (fun _ => (-1)))), (adt, .inl (cI, 16, .inl (fun _ => (nI 0)))), (hp, .inr (0, [.int (nI n), .ref aw, .ref av, .ref az, .ref af]))] := hD
  refine lv_aload_n hx hb zd_Q_begin_101 rfl (lv_at hl 0 rfl) ?_
  refine lv_lload_n hx hb zd_Q_begin_102 rfl (lv_at hl 2 rfl) ?_
  refine va_put (D := (dC, dI)) (ci := 1) (v := .long sd) (ty := .long) (C := zR_Q) (T := zF_Q) (N := 16) hx hb htz zi_Q zt_Q zt_Q_ok zn_Q hown hK hP hD hS 0 rfl rfl 15 (by decide) (htz _ zq_76) (fun _ h9 => h9) rfl (by decide +kernel) rfl rfl (Nat.le_of_ble_eq_true rfl) zd_Q_begin_103 (fun H locs hP hD hS => ?_)
  have hP : va_P (dC, dI) zcl [(ra, .inr (1, [.ref hp, .ref ah, .ref am, .ref at_, .ref asp, .ref afa, .ref ado, .ref adt, .ref aor, .int (nI W0), .int (nI 0), .int (nI 0), .int (nI n), .int (nI 0), .int (nI 0), .long sd])), (ah, .inl (cI, 16, .inl (fun _ => (-1)))), (am, .inl (cI, 16, .inl (fun _ => (nI 0)))), (at_, .inl (cI, 16, .inl (fun _ => (nI 0)))), (asp, .inl (cI, 16, .inl (fun _ => (nI 0)))), (afa, .inl (cI, 16, .inl (fun _ => (nI 0)))), (ado, .inl (cI, 16, .inl (fun _ => (-1)))), (adt, .inl (cI, 16, .inl (fun _ => (nI 0)))), (hp, .inr (0, [.int (nI n), .ref aw, .ref av, .ref az, .ref af]))] H := hP
  have hD : va_D A [(ra, .inr (1, [.ref hp, .ref ah, .ref am, .ref at_, .ref asp, .ref afa, .ref ado, .ref adt, .ref aor, .int (nI W0), .int (nI 0), .int (nI 0), .int (nI n), .int (nI 0), .int (nI 0), .long sd])), (ah, .inl (cI, 16, .inl (fun _ => (-1)))), (am, .inl (cI, 16, .inl (fun _ => (nI 0)))), (at_, .inl (cI, 16, .inl (fun _ => (nI 0)))), (asp, .inl (cI, 16, .inl (fun _ => (nI 0)))), (afa, .inl (cI, 16, .inl (fun _ => (nI 0)))), (ado, .inl (cI, 16, .inl (fun _ => (-1)))), (adt, .inl (cI, 16, .inl (fun _ => (nI 0)))), (hp, .inr (0, [.int (nI n), .ref aw, .ref av, .ref az, .ref af]))] := hD
  have hP := hP.sub (ws' := [(ra, .inr (1, [.ref hp, .ref ah, .ref am, .ref at_, .ref asp, .ref afa, .ref ado, .ref adt, .ref aor, .int (nI W0), .int (nI 0), .int (nI 0), .int (nI n), .int (nI 0), .int (nI 0), .long sd])), (hp, .inr (0, [.int (nI n), .ref aw, .ref av, .ref az, .ref af])), (ah, .inl (cI, 16, .inl (fun _ => (-1)))), (am, .inl (cI, 16, .inl (fun _ => (nI 0)))), (at_, .inl (cI, 16, .inl (fun _ => (nI 0)))), (asp, .inl (cI, 16, .inl (fun _ => (nI 0)))), (afa, .inl (cI, 16, .inl (fun _ => (nI 0)))), (ado, .inl (cI, 16, .inl (fun _ => (-1)))), (adt, .inl (cI, 16, .inl (fun _ => (nI 0))))]) [0, 8, 1, 2, 3, 4, 5, 6, 7] rfl
  have hD := hD.sub (ws' := [(ra, .inr (1, [.ref hp, .ref ah, .ref am, .ref at_, .ref asp, .ref afa, .ref ado, .ref adt, .ref aor, .int (nI W0), .int (nI 0), .int (nI 0), .int (nI n), .int (nI 0), .int (nI 0), .long sd])), (hp, .inr (0, [.int (nI n), .ref aw, .ref av, .ref az, .ref af])), (ah, .inl (cI, 16, .inl (fun _ => (-1)))), (am, .inl (cI, 16, .inl (fun _ => (nI 0)))), (at_, .inl (cI, 16, .inl (fun _ => (nI 0)))), (asp, .inl (cI, 16, .inl (fun _ => (nI 0)))), (afa, .inl (cI, 16, .inl (fun _ => (nI 0)))), (ado, .inl (cI, 16, .inl (fun _ => (-1)))), (adt, .inl (cI, 16, .inl (fun _ => (nI 0))))]) [0, 8, 1, 2, 3, 4, 5, 6, 7] (by decide) rfl
  exact z_vret hx hb hr hlocks hP hK hD hS zd_Q_begin_106 (by decide) (by decide) rfl
set_option maxHeartbeats 4000000 in
set_option maxRecDepth 100000 in
/--  -/
theorem k_Race_countedTicks (l : Launch) (dC : Nat → ClassId) (dI : Nat → Nat → Nat) (cI cJ cZ : ClassId) (ra : Nat) (hp : Nat) (ah : Nat) (am : Nat) (at_ : Nat) (asp : Nat) (afa : Nat) (ado : Nat) (adt : Nat) (aor : Nat) (cr : Nat) (ho : Nat) (nx : Nat) (ba : Nat) (pl : Nat) (tk : Nat) (rr : Int64) (aw : Nat) (av : Nat) (az : Nat) (af : Nat) (n : Nat) (se : Nat → Int32) (sp : Nat → Int32) (hn : n ≤ 16) (hn1 : 1 ≤ n) (sz : Nat) : zMi l zy_Q_countedTicks zw_Q_countedTicks ({ frames := 1, cells := 0, slots := 0, locals := 21 }) [.ref ra] (dC, dI) zcl [(cI, .int), (cJ, .long), (cZ, .boolean)] [(ra, .inr (1, [.ref hp, .ref ah, .ref am, .ref at_, .ref asp, .ref afa, .ref ado, .ref adt, .ref aor, .int (nI cr), .int (nI ho), .int (nI nx), .int (nI ba), .int (nI pl), .int (nI tk), .long rr])), (hp, .inr (0, [.int (nI n), .ref aw, .ref av, .ref az, .ref af])), (az, .inl (cZ, 16, .inl se)), (asp, .inl (cI, 16, .inl sp))] sz (fun (r : Int32) (u : va_W) => r = zsumI sp (zlast se n) ∧ u = [(ra, .inr (1, [.ref hp, .ref ah, .ref am, .ref at_, .ref asp, .ref afa, .ref ado, .ref adt, .ref aor, .int (nI cr), .int (nI ho), .int (nI nx), .int (nI ba), .int (nI pl), .int (nI tk), .long rr])), (hp, .inr (0, [.int (nI n), .ref aw, .ref av, .ref az, .ref af])), (az, .inl (cZ, 16, .inl se)), (asp, .inl (cI, 16, .inl sp))]) := by
  refine z_ofi (cc := zc_Q_countedTicks) (maxL := 5) (ret := (some .int)) (by decide) rfl (Nat.le_of_ble_eq_true rfl) ?_
  intro p e s m below meth c A ls hx hb hr hml hown htz hlocks hin hA hP hK hD hS hl
  have hown : s.vm.findClass zR_Q = some m.cls := hown
  have hl : lv_has ls 5 [(0, .ref ra)] := hl
  refine lv_aload_n hx hb zd_Q_countedTicks_0 rfl (lv_at hl 0 rfl) ?_
  refine va_get (D := (dC, dI)) (ci := 1) (v := .ref hp) (C := zR_Q) (T := zF_Q) (N := 16) hx hb htz zi_Q hown hK hP 0 rfl rfl 0 (by decide) (htz _ zq_61) (fun _ h9 => h9) rfl zd_Q_countedTicks_1 ?_
  refine z_Vi (As := []) (rest := []) (wc := [(hp, .inr (0, [.int (nI n), .ref aw, .ref av, .ref az, .ref af])), (az, .inl (cZ, 16, .inl se))]) (wr := [(ra, .inr (1, [.ref hp, .ref ah, .ref am, .ref at_, .ref asp, .ref afa, .ref ado, .ref adt, .ref aor, .int (nI cr), .int (nI ho), .int (nI nx), .int (nI ba), .int (nI pl), .int (nI tk), .long rr])), (asp, .inl (cI, 16, .inl sp))]) ⟨hx, hb, hml, hown, htz⟩ hK hP hD hS hA (k_Plan_winner l dC dI cI cJ cZ hp aw av az af n se (by first | assumption | omega) s.heap.size) (zcwV 0 htz zq_332 zq_381 zq_330 zq_331 zq_2 (by decide +kernel) ⟨Nat.le_of_ble_eq_true rfl, Nat.le_of_ble_eq_true rfl⟩) 1 0 rfl rfl [1, 2] [0, 3] rfl rfl rfl (by decide) rfl hl.1 rfl (Nat.le_of_ble_eq_true rfl) zd_Q_countedTicks_4 ⟨Nat.le_of_ble_eq_true rfl, Nat.le_of_ble_eq_true rfl⟩ (fun r u H locs hw hP hD hS => ?_)
  rcases hw with ⟨rfl, rfl, hw1_⟩ | ⟨rfl, rfl, hw2_⟩
  · have hP : va_P (dC, dI) zcl [(ra, .inr (1, [.ref hp, .ref ah, .ref am, .ref at_, .ref asp, .ref afa, .ref ado, .ref adt, .ref aor, .int (nI cr), .int (nI ho), .int (nI nx), .int (nI ba), .int (nI pl), .int (nI tk), .long rr])), (asp, .inl (cI, 16, .inl sp)), (hp, .inr (0, [.int (nI n), .ref aw, .ref av, .ref az, .ref af])), (az, .inl (cZ, 16, .inl se))] H := hP
    have hD : va_D A [(ra, .inr (1, [.ref hp, .ref ah, .ref am, .ref at_, .ref asp, .ref afa, .ref ado, .ref adt, .ref aor, .int (nI cr), .int (nI ho), .int (nI nx), .int (nI ba), .int (nI pl), .int (nI tk), .long rr])), (asp, .inl (cI, 16, .inl sp)), (hp, .inr (0, [.int (nI n), .ref aw, .ref av, .ref az, .ref af])), (az, .inl (cZ, 16, .inl se))] := hD
    have hw9 := hw1_
    refine lv_istore_n (lv' := [(1, .int (nI (zwin se n))), (0, .ref ra)]) hx hb zd_Q_countedTicks_7 rfl hl (by decide) rfl (fun ls hl => ?_)
    refine lv_iload_n hx hb zd_Q_countedTicks_8 rfl (lv_at hl 0 rfl) ?_
    refine lv_iconst (v := (-1)) hx hb zd_Q_countedTicks_9 (by decide) ?_
    refine lv_icmp_ne (tgt := 25) hx hb zd_Q_countedTicks_10 (by decide) (fun c3_ => ?_) (fun c3_ => absurd c3_ (nI_nm1 (by omega)))
    refine lv_iload_n hx hb zd_Q_countedTicks_25 rfl (lv_at hl 0 rfl) ?_
    obtain ⟨q9, hq9⟩ : ∃ q9, q9 = (zwin se n) := ⟨_, rfl⟩
    refine z_topi (y := nI q9) (by rw [hq9]) ?_
    have hq1 : q9 < 16 := by omega
    have hq2 : q9 + 1 = zlast se n := by simp only [zlast]; split <;> omega
    refine lv_istore_n (lv' := [(2, .int (nI q9)), (1, .int (nI (zwin se n))), (0, .ref ra)]) hx hb zd_Q_countedTicks_26 rfl hl (by decide) rfl (fun ls hl => ?_)
    refine lv_iconst (v := (nI 0)) hx hb zd_Q_countedTicks_27 (by decide) ?_
    refine lv_istore_n (lv' := [(3, .int (nI 0)), (2, .int (nI q9)), (1, .int (nI (zwin se n))), (0, .ref ra)]) hx hb zd_Q_countedTicks_28 rfl hl (by decide) rfl (fun ls hl => ?_)
    refine lv_iconst (v := (nI 0)) hx hb zd_Q_countedTicks_29 (by decide) ?_
    refine lv_istore (lv' := [(4, .int (nI 0)), (3, .int (nI 0)), (2, .int (nI q9)), (1, .int (nI (zwin se n))), (0, .ref ra)]) hx hb zd_Q_countedTicks_30 hl (by decide) rfl (fun ls hl => ?_)
    have lp32 : ∀ (fuel : Nat) (k : Nat) (sm : Int32) (H : Heap) (locs : List Loc) (ls : Array Slot), (k ≤ q9 + 1) → (sm = zsumI sp k) → q9 + 1 - k < fuel → va_P (dC, dI) zcl [(ra, .inr (1, [.ref hp, .ref ah, .ref am, .ref at_, .ref asp, .ref afa, .ref ado, .ref adt, .ref aor, .int (nI cr), .int (nI ho), .int (nI nx), .int (nI ba), .int (nI pl), .int (nI tk), .long rr])), (asp, .inl (cI, 16, .inl sp)), (hp, .inr (0, [.int (nI n), .ref aw, .ref av, .ref az, .ref af])), (az, .inl (cZ, 16, .inl se))] H → va_D A [(ra, .inr (1, [.ref hp, .ref ah, .ref am, .ref at_, .ref asp, .ref afa, .ref ado, .ref adt, .ref aor, .int (nI cr), .int (nI ho), .int (nI nx), .int (nI ba), .int (nI pl), .int (nI tk), .long rr])), (asp, .inl (cI, 16, .inl sp)), (hp, .inr (0, [.int (nI n), .ref aw, .ref av, .ref az, .ref af])), (az, .inl (cZ, 16, .inl se))] → va_S A s.heap H locs → lv_has ls 5 [(4, .int (nI k)), (3, .int sm), (2, .int (nI q9)), (1, .int (nI (zwin se n))), (0, .ref ra)] → W p l e ({ frames := 1, cells := 0, slots := 0, locals := 21 } : Room) s m [.ref ra].toArray below meth c H locs 0 0 (MQ below (va_Qi (fun (r : Int32) (u : va_W) => r = zsumI sp (zlast se n) ∧ u = [(ra, .inr (1, [.ref hp, .ref ah, .ref am, .ref at_, .ref asp, .ref afa, .ref ado, .ref adt, .ref aor, .int (nI cr), .int (nI ho), .int (nI nx), .int (nI ba), .int (nI pl), .int (nI tk), .long rr])), (hp, .inr (0, [.int (nI n), .ref aw, .ref av, .ref az, .ref af])), (az, .inl (cZ, 16, .inl se)), (asp, .inl (cI, 16, .inl sp))]) (zAt (dC, dI) zcl [(cI, .int), (cJ, .long), (cZ, .boolean)] A) A) [.ref ra].toArray s 0 0 A) (F0 m 32 ls []) := by
      intro fuel
      induction fuel with
      | zero => intro k sm H locs ls hk hsm hf; exact absurd hf (Nat.not_lt_zero _)
      | succ fuel ih =>
        intro k sm H locs ls hk hsm hf hP hD hS hl
        refine lv_iload hx hb zd_Q_countedTicks_32 (lv_at hl 0 rfl) ?_
        refine lv_iload_n hx hb zd_Q_countedTicks_34 rfl (lv_at hl 2 rfl) ?_
        refine lv_icmp_gt (tgt := 64) hx hb zd_Q_countedTicks_35 (by decide) (fun c4_ => ?_) (fun c4_ => ?_)
        · have hk2 : k = q9 + 1 := by have : ¬ k ≤ q9 := fun h => nI_nlt h (by omega) c4_; omega
          refine lv_iload_n hx hb zd_Q_countedTicks_64 rfl (lv_at hl 1 rfl) ?_
          have hP := hP.sub (ws' := [(ra, .inr (1, [.ref hp, .ref ah, .ref am, .ref at_, .ref asp, .ref afa, .ref ado, .ref adt, .ref aor, .int (nI cr), .int (nI ho), .int (nI nx), .int (nI ba), .int (nI pl), .int (nI tk), .long rr])), (hp, .inr (0, [.int (nI n), .ref aw, .ref av, .ref az, .ref af])), (az, .inl (cZ, 16, .inl se)), (asp, .inl (cI, 16, .inl sp))]) [0, 2, 3, 1] rfl
          have hD := hD.sub (ws' := [(ra, .inr (1, [.ref hp, .ref ah, .ref am, .ref at_, .ref asp, .ref afa, .ref ado, .ref adt, .ref aor, .int (nI cr), .int (nI ho), .int (nI nx), .int (nI ba), .int (nI pl), .int (nI tk), .long rr])), (hp, .inr (0, [.int (nI n), .ref aw, .ref av, .ref az, .ref af])), (az, .inl (cZ, 16, .inl se)), (asp, .inl (cI, 16, .inl sp))]) [0, 2, 3, 1] (by decide) rfl
          exact z_iret hx hb hr hlocks hP hK hD hS zd_Q_countedTicks_65 (by decide) (by decide) ⟨by rw [hsm, hk2, hq2], rfl⟩
        · have hk2 : k ≤ q9 := Nat.le_of_not_lt (fun h => c4_ (nI_lt h (by omega)))
          refine lv_iload hx hb zd_Q_countedTicks_38 (lv_at hl 0 rfl) ?_
          refine lv_aload_n hx hb zd_Q_countedTicks_40 rfl (lv_at hl 4 rfl) ?_
          refine va_get (D := (dC, dI)) (ci := 1) (v := .ref asp) (C := zR_Q) (T := zF_Q) (N := 16) hx hb htz zi_Q hown hK hP 0 rfl rfl 4 (by decide) (htz _ zq_65) (fun _ h9 => h9) rfl zd_Q_countedTicks_41 ?_
          refine va_alen (v := nI 16) hx hb hK hP 1 0 rfl rfl rfl zd_Q_countedTicks_44 ?_
          refine lv_icmp_ge (tgt := 64) hx hb zd_Q_countedTicks_45 (by decide) (fun c5_ => absurd c5_ (nI_ge (by omega) (by decide))) (fun c5_ => ?_)
          refine lv_iload_n hx hb zd_Q_countedTicks_48 rfl (lv_at hl 1 rfl) ?_
          refine lv_aload_n hx hb zd_Q_countedTicks_49 rfl (lv_at hl 4 rfl) ?_
          refine va_get (D := (dC, dI)) (ci := 1) (v := .ref asp) (C := zR_Q) (T := zF_Q) (N := 16) hx hb htz zi_Q hown hK hP 0 rfl rfl 4 (by decide) (htz _ zq_65) (fun _ h9 => h9) rfl zd_Q_countedTicks_50 ?_
          refine lv_iload hx hb zd_Q_countedTicks_53 (lv_at hl 0 rfl) ?_
          refine z_iald hx hb hK hP 1 0 rfl rfl (j := k) (by omega) (by decide) zd_Q_countedTicks_55 ?_
          refine lv_iadd hx hb zd_Q_countedTicks_56 ?_
          refine z_topi (y := zsumI sp (k + 1)) (by rw [hsm]; rfl) ?_
          refine lv_istore_n (lv' := [(3, .int (zsumI sp (k + 1))), (4, .int (nI k)), (2, .int (nI q9)), (1, .int (nI (zwin se n))), (0, .ref ra)]) hx hb zd_Q_countedTicks_57 rfl hl (by decide) rfl (fun ls hl => ?_)
          refine lv_iinc (v := (nI (k + 1))) (lv' := [(4, .int (nI (k + 1))), (3, .int (zsumI sp (k + 1))), (2, .int (nI q9)), (1, .int (nI (zwin se n))), (0, .ref ra)]) hx hb zd_Q_countedTicks_58 hl (k := 1) rfl (nI_1 k) (by decide) rfl (fun ls hl => ?_)
          refine lv_goto (tgt := 32) hx hb zd_Q_countedTicks_61 (by decide) ?_
          exact ih (k + 1) (zsumI sp (k + 1)) _ _ _ (by omega) rfl (by omega) hP hD hS hl
    exact lp32 _ 0 (nI 0) _ _ _ (Nat.zero_le _) rfl (Nat.lt_succ_self _) hP hD hS hl
  · have hP : va_P (dC, dI) zcl [(ra, .inr (1, [.ref hp, .ref ah, .ref am, .ref at_, .ref asp, .ref afa, .ref ado, .ref adt, .ref aor, .int (nI cr), .int (nI ho), .int (nI nx), .int (nI ba), .int (nI pl), .int (nI tk), .long rr])), (asp, .inl (cI, 16, .inl sp)), (hp, .inr (0, [.int (nI n), .ref aw, .ref av, .ref az, .ref af])), (az, .inl (cZ, 16, .inl se))] H := hP
    have hD : va_D A [(ra, .inr (1, [.ref hp, .ref ah, .ref am, .ref at_, .ref asp, .ref afa, .ref ado, .ref adt, .ref aor, .int (nI cr), .int (nI ho), .int (nI nx), .int (nI ba), .int (nI pl), .int (nI tk), .long rr])), (asp, .inl (cI, 16, .inl sp)), (hp, .inr (0, [.int (nI n), .ref aw, .ref av, .ref az, .ref af])), (az, .inl (cZ, 16, .inl se))] := hD
    have hw9 := hw2_
    refine lv_istore_n (lv' := [(1, .int (-1)), (0, .ref ra)]) hx hb zd_Q_countedTicks_7 rfl hl (by decide) rfl (fun ls hl => ?_)
    refine lv_iload_n hx hb zd_Q_countedTicks_8 rfl (lv_at hl 0 rfl) ?_
    refine lv_iconst (v := (-1)) hx hb zd_Q_countedTicks_9 (by decide) ?_
    refine lv_icmp_ne (tgt := 25) hx hb zd_Q_countedTicks_10 (by decide) (fun c6_ => absurd rfl c6_) (fun c6_ => ?_)
    refine lv_aload_n hx hb zd_Q_countedTicks_13 rfl (lv_at hl 1 rfl) ?_
    refine va_get (D := (dC, dI)) (ci := 1) (v := .ref hp) (C := zR_Q) (T := zF_Q) (N := 16) hx hb htz zi_Q hown hK hP 0 rfl rfl 0 (by decide) (htz _ zq_61) (fun _ h9 => h9) rfl zd_Q_countedTicks_14 ?_
    refine z_Vi (As := []) (rest := []) (wc := [(hp, .inr (0, [.int (nI n), .ref aw, .ref av, .ref az, .ref af]))]) (wr := [(ra, .inr (1, [.ref hp, .ref ah, .ref am, .ref at_, .ref asp, .ref afa, .ref ado, .ref adt, .ref aor, .int (nI cr), .int (nI ho), .int (nI nx), .int (nI ba), .int (nI pl), .int (nI tk), .long rr])), (asp, .inl (cI, 16, .inl sp)), (az, .inl (cZ, 16, .inl se))]) ⟨hx, hb, hml, hown, htz⟩ hK hP hD hS hA (k_Plan_size l dC dI cI cJ cZ hp aw av az af n H.size) (zcwV 0 htz zq_127 zq_269 zq_125 zq_126 zq_2 (by decide +kernel) ⟨Nat.le_of_ble_eq_true rfl, Nat.le_of_ble_eq_true rfl⟩) 2 0 rfl rfl [2] [0, 1, 3] rfl rfl rfl (by decide) rfl hl.1 rfl (Nat.le_of_ble_eq_true rfl) zd_Q_countedTicks_17 ⟨Nat.le_of_ble_eq_true rfl, Nat.le_of_ble_eq_true rfl⟩ (fun r u H locs hw hP hD hS => ?_)
    obtain ⟨rfl, rfl⟩ := hw
    have hP : va_P (dC, dI) zcl [(ra, .inr (1, [.ref hp, .ref ah, .ref am, .ref at_, .ref asp, .ref afa, .ref ado, .ref adt, .ref aor, .int (nI cr), .int (nI ho), .int (nI nx), .int (nI ba), .int (nI pl), .int (nI tk), .long rr])), (asp, .inl (cI, 16, .inl sp)), (az, .inl (cZ, 16, .inl se)), (hp, .inr (0, [.int (nI n), .ref aw, .ref av, .ref az, .ref af]))] H := hP
    have hD : va_D A [(ra, .inr (1, [.ref hp, .ref ah, .ref am, .ref at_, .ref asp, .ref afa, .ref ado, .ref adt, .ref aor, .int (nI cr), .int (nI ho), .int (nI nx), .int (nI ba), .int (nI pl), .int (nI tk), .long rr])), (asp, .inl (cI, 16, .inl sp)), (az, .inl (cZ, 16, .inl se)), (hp, .inr (0, [.int (nI n), .ref aw, .ref av, .ref az, .ref af]))] := hD
    refine lv_iconst (v := (nI 1)) hx hb zd_Q_countedTicks_20 (by decide) ?_
    refine lv_isub hx hb zd_Q_countedTicks_21 ?_
    refine z_topi (y := nI (n - 1)) (pk_sub hn1) ?_
    refine lv_goto (tgt := 26) hx hb zd_Q_countedTicks_22 (by decide) ?_
    obtain ⟨q9, hq9⟩ : ∃ q9, q9 = (n - 1) := ⟨_, rfl⟩
    refine z_topi (y := nI q9) (by rw [hq9]) ?_
    have hq1 : q9 < 16 := by omega
    have hq2 : q9 + 1 = zlast se n := by simp only [zlast]; split <;> omega
    refine lv_istore_n (lv' := [(2, .int (nI q9)), (1, .int (-1)), (0, .ref ra)]) hx hb zd_Q_countedTicks_26 rfl hl (by decide) rfl (fun ls hl => ?_)
    refine lv_iconst (v := (nI 0)) hx hb zd_Q_countedTicks_27 (by decide) ?_
    refine lv_istore_n (lv' := [(3, .int (nI 0)), (2, .int (nI q9)), (1, .int (-1)), (0, .ref ra)]) hx hb zd_Q_countedTicks_28 rfl hl (by decide) rfl (fun ls hl => ?_)
    refine lv_iconst (v := (nI 0)) hx hb zd_Q_countedTicks_29 (by decide) ?_
    refine lv_istore (lv' := [(4, .int (nI 0)), (3, .int (nI 0)), (2, .int (nI q9)), (1, .int (-1)), (0, .ref ra)]) hx hb zd_Q_countedTicks_30 hl (by decide) rfl (fun ls hl => ?_)
    have lp32 : ∀ (fuel : Nat) (k : Nat) (sm : Int32) (H : Heap) (locs : List Loc) (ls : Array Slot), (k ≤ q9 + 1) → (sm = zsumI sp k) → q9 + 1 - k < fuel → va_P (dC, dI) zcl [(ra, .inr (1, [.ref hp, .ref ah, .ref am, .ref at_, .ref asp, .ref afa, .ref ado, .ref adt, .ref aor, .int (nI cr), .int (nI ho), .int (nI nx), .int (nI ba), .int (nI pl), .int (nI tk), .long rr])), (asp, .inl (cI, 16, .inl sp)), (az, .inl (cZ, 16, .inl se)), (hp, .inr (0, [.int (nI n), .ref aw, .ref av, .ref az, .ref af]))] H → va_D A [(ra, .inr (1, [.ref hp, .ref ah, .ref am, .ref at_, .ref asp, .ref afa, .ref ado, .ref adt, .ref aor, .int (nI cr), .int (nI ho), .int (nI nx), .int (nI ba), .int (nI pl), .int (nI tk), .long rr])), (asp, .inl (cI, 16, .inl sp)), (az, .inl (cZ, 16, .inl se)), (hp, .inr (0, [.int (nI n), .ref aw, .ref av, .ref az, .ref af]))] → va_S A s.heap H locs → lv_has ls 5 [(4, .int (nI k)), (3, .int sm), (2, .int (nI q9)), (1, .int (-1)), (0, .ref ra)] → W p l e ({ frames := 1, cells := 0, slots := 0, locals := 21 } : Room) s m [.ref ra].toArray below meth c H locs 0 0 (MQ below (va_Qi (fun (r : Int32) (u : va_W) => r = zsumI sp (zlast se n) ∧ u = [(ra, .inr (1, [.ref hp, .ref ah, .ref am, .ref at_, .ref asp, .ref afa, .ref ado, .ref adt, .ref aor, .int (nI cr), .int (nI ho), .int (nI nx), .int (nI ba), .int (nI pl), .int (nI tk), .long rr])), (hp, .inr (0, [.int (nI n), .ref aw, .ref av, .ref az, .ref af])), (az, .inl (cZ, 16, .inl se)), (asp, .inl (cI, 16, .inl sp))]) (zAt (dC, dI) zcl [(cI, .int), (cJ, .long), (cZ, .boolean)] A) A) [.ref ra].toArray s 0 0 A) (F0 m 32 ls []) := by
      intro fuel
      induction fuel with
      | zero => intro k sm H locs ls hk hsm hf; exact absurd hf (Nat.not_lt_zero _)
      | succ fuel ih =>
        intro k sm H locs ls hk hsm hf hP hD hS hl
        refine lv_iload hx hb zd_Q_countedTicks_32 (lv_at hl 0 rfl) ?_
        refine lv_iload_n hx hb zd_Q_countedTicks_34 rfl (lv_at hl 2 rfl) ?_
        refine lv_icmp_gt (tgt := 64) hx hb zd_Q_countedTicks_35 (by decide) (fun c7_ => ?_) (fun c7_ => ?_)
        · have hk2 : k = q9 + 1 := by have : ¬ k ≤ q9 := fun h => nI_nlt h (by omega) c7_; omega
          refine lv_iload_n hx hb zd_Q_countedTicks_64 rfl (lv_at hl 1 rfl) ?_
          have hP := hP.sub (ws' := [(ra, .inr (1, [.ref hp, .ref ah, .ref am, .ref at_, .ref asp, .ref afa, .ref ado, .ref adt, .ref aor, .int (nI cr), .int (nI ho), .int (nI nx), .int (nI ba), .int (nI pl), .int (nI tk), .long rr])), (hp, .inr (0, [.int (nI n), .ref aw, .ref av, .ref az, .ref af])), (az, .inl (cZ, 16, .inl se)), (asp, .inl (cI, 16, .inl sp))]) [0, 3, 2, 1] rfl
          have hD := hD.sub (ws' := [(ra, .inr (1, [.ref hp, .ref ah, .ref am, .ref at_, .ref asp, .ref afa, .ref ado, .ref adt, .ref aor, .int (nI cr), .int (nI ho), .int (nI nx), .int (nI ba), .int (nI pl), .int (nI tk), .long rr])), (hp, .inr (0, [.int (nI n), .ref aw, .ref av, .ref az, .ref af])), (az, .inl (cZ, 16, .inl se)), (asp, .inl (cI, 16, .inl sp))]) [0, 3, 2, 1] (by decide) rfl
          exact z_iret hx hb hr hlocks hP hK hD hS zd_Q_countedTicks_65 (by decide) (by decide) ⟨by rw [hsm, hk2, hq2], rfl⟩
        · have hk2 : k ≤ q9 := Nat.le_of_not_lt (fun h => c7_ (nI_lt h (by omega)))
          refine lv_iload hx hb zd_Q_countedTicks_38 (lv_at hl 0 rfl) ?_
          refine lv_aload_n hx hb zd_Q_countedTicks_40 rfl (lv_at hl 4 rfl) ?_
          refine va_get (D := (dC, dI)) (ci := 1) (v := .ref asp) (C := zR_Q) (T := zF_Q) (N := 16) hx hb htz zi_Q hown hK hP 0 rfl rfl 4 (by decide) (htz _ zq_65) (fun _ h9 => h9) rfl zd_Q_countedTicks_41 ?_
          refine va_alen (v := nI 16) hx hb hK hP 1 0 rfl rfl rfl zd_Q_countedTicks_44 ?_
          refine lv_icmp_ge (tgt := 64) hx hb zd_Q_countedTicks_45 (by decide) (fun c8_ => absurd c8_ (nI_ge (by omega) (by decide))) (fun c8_ => ?_)
          refine lv_iload_n hx hb zd_Q_countedTicks_48 rfl (lv_at hl 1 rfl) ?_
          refine lv_aload_n hx hb zd_Q_countedTicks_49 rfl (lv_at hl 4 rfl) ?_
          refine va_get (D := (dC, dI)) (ci := 1) (v := .ref asp) (C := zR_Q) (T := zF_Q) (N := 16) hx hb htz zi_Q hown hK hP 0 rfl rfl 4 (by decide) (htz _ zq_65) (fun _ h9 => h9) rfl zd_Q_countedTicks_50 ?_
          refine lv_iload hx hb zd_Q_countedTicks_53 (lv_at hl 0 rfl) ?_
          refine z_iald hx hb hK hP 1 0 rfl rfl (j := k) (by omega) (by decide) zd_Q_countedTicks_55 ?_
          refine lv_iadd hx hb zd_Q_countedTicks_56 ?_
          refine z_topi (y := zsumI sp (k + 1)) (by rw [hsm]; rfl) ?_
          refine lv_istore_n (lv' := [(3, .int (zsumI sp (k + 1))), (4, .int (nI k)), (2, .int (nI q9)), (1, .int (-1)), (0, .ref ra)]) hx hb zd_Q_countedTicks_57 rfl hl (by decide) rfl (fun ls hl => ?_)
          refine lv_iinc (v := (nI (k + 1))) (lv' := [(4, .int (nI (k + 1))), (3, .int (zsumI sp (k + 1))), (2, .int (nI q9)), (1, .int (-1)), (0, .ref ra)]) hx hb zd_Q_countedTicks_58 hl (k := 1) rfl (nI_1 k) (by decide) rfl (fun ls hl => ?_)
          refine lv_goto (tgt := 32) hx hb zd_Q_countedTicks_61 (by decide) ?_
          exact ih (k + 1) (zsumI sp (k + 1)) _ _ _ (by omega) rfl (by omega) hP hD hS hl
    exact lp32 _ 0 (nI 0) _ _ _ (Nat.zero_le _) rfl (Nat.lt_succ_self _) hP hD hS hl
set_option maxHeartbeats 4000000 in
set_option maxRecDepth 100000 in
/--  -/
theorem k_Race_movesOf_k (l : Launch) (dC : Nat → ClassId) (dI : Nat → Nat → Nat) (cI cJ cZ : ClassId) (ra : Nat) (hp : Nat) (ah : Nat) (am : Nat) (at_ : Nat) (asp : Nat) (afa : Nat) (ado : Nat) (adt : Nat) (aor : Nat) (cr : Nat) (ho : Nat) (nx : Nat) (ba : Nat) (pl : Nat) (tk : Nat) (rr : Int64) (mv : Nat → Int32) (j : Nat) (hc : cr ≤ 16) (hj : j < cr) (sz : Nat) : zMi l zy_Q_movesOf zw_Q_movesOf ({ frames := 1, cells := 0, slots := 0, locals := 21 }) [.ref ra, .int (nI j)] (dC, dI) zcl [(cI, .int), (cJ, .long), (cZ, .boolean)] [(ra, .inr (1, [.ref hp, .ref ah, .ref am, .ref at_, .ref asp, .ref afa, .ref ado, .ref adt, .ref aor, .int (nI cr), .int (nI ho), .int (nI nx), .int (nI ba), .int (nI pl), .int (nI tk), .long rr])), (am, .inl (cI, 16, .inl mv))] sz (fun (r : Int32) (u : va_W) => r = mv j ∧ u = [(ra, .inr (1, [.ref hp, .ref ah, .ref am, .ref at_, .ref asp, .ref afa, .ref ado, .ref adt, .ref aor, .int (nI cr), .int (nI ho), .int (nI nx), .int (nI ba), .int (nI pl), .int (nI tk), .long rr])), (am, .inl (cI, 16, .inl mv))]) := by
  refine z_ofi (cc := zc_Q_movesOf) (maxL := 2) (ret := (some .int)) (by decide) rfl (Nat.le_of_ble_eq_true rfl) ?_
  intro p e s m below meth c A ls hx hb hr hml hown htz hlocks hin hA hP hK hD hS hl
  have hown : s.vm.findClass zR_Q = some m.cls := hown
  have hl : lv_has ls 2 [(0, .ref ra), (1, .int (nI j))] := hl
  refine lv_aload_n hx hb zd_Q_movesOf_0 rfl (lv_at hl 0 rfl) ?_
  refine lv_iload_n hx hb zd_Q_movesOf_1 rfl (lv_at hl 1 rfl) ?_
  refine z_Vi (As := [.int (nI j)]) (rest := []) (wc := [(ra, .inr (1, [.ref hp, .ref ah, .ref am, .ref at_, .ref asp, .ref afa, .ref ado, .ref adt, .ref aor, .int (nI cr), .int (nI ho), .int (nI nx), .int (nI ba), .int (nI pl), .int (nI tk), .long rr]))]) (wr := [(am, .inl (cI, 16, .inl mv))]) ⟨hx, hb, hml, hown, htz⟩ hK hP hD hS hA (k_Race_hasWorker_k l dC dI cI cJ cZ ra hp ah am at_ asp afa ado adt aor cr ho nx ba pl tk rr j (by first | assumption | omega) (by first | assumption | omega) s.heap.size) (zcwV 1 htz zq_295 zq_292 zq_293 zq_294 zq_5 (by decide +kernel) ⟨Nat.le_of_ble_eq_true rfl, Nat.le_of_ble_eq_true rfl⟩) 0 1 rfl rfl [0] [1] rfl rfl rfl (by decide) rfl hl.1 rfl (Nat.le_of_ble_eq_true rfl) zd_Q_movesOf_2 ⟨Nat.le_of_ble_eq_true rfl, Nat.le_of_ble_eq_true rfl⟩ (fun r u H locs hw hP hD hS => ?_)
  obtain ⟨rfl, rfl⟩ := hw
  have hP : va_P (dC, dI) zcl [(am, .inl (cI, 16, .inl mv)), (ra, .inr (1, [.ref hp, .ref ah, .ref am, .ref at_, .ref asp, .ref afa, .ref ado, .ref adt, .ref aor, .int (nI cr), .int (nI ho), .int (nI nx), .int (nI ba), .int (nI pl), .int (nI tk), .long rr]))] H := hP
  have hD : va_D A [(am, .inl (cI, 16, .inl mv)), (ra, .inr (1, [.ref hp, .ref ah, .ref am, .ref at_, .ref asp, .ref afa, .ref ado, .ref adt, .ref aor, .int (nI cr), .int (nI ho), .int (nI nx), .int (nI ba), .int (nI pl), .int (nI tk), .long rr]))] := hD
  refine lv_if_eq (tgt := 17) hx hb zd_Q_movesOf_5 (by decide) (fun c1_ => absurd c1_ (by decide)) (fun _ => ?_)
  refine lv_aload_n hx hb zd_Q_movesOf_8 rfl (lv_at hl 0 rfl) ?_
  refine va_get (D := (dC, dI)) (ci := 1) (v := .ref am) (C := zR_Q) (T := zF_Q) (N := 16) hx hb htz zi_Q hown hK hP 1 rfl rfl 2 (by decide) (htz _ zq_63) (fun _ h9 => h9) rfl zd_Q_movesOf_9 ?_
  refine lv_iload_n hx hb zd_Q_movesOf_12 rfl (lv_at hl 1 rfl) ?_
  refine z_iald hx hb hK hP 0 0 rfl rfl (j := j) (by omega) (by decide) zd_Q_movesOf_13 ?_
  refine lv_goto (tgt := 18) hx hb zd_Q_movesOf_14 (by decide) ?_
  have hP := hP.sub (ws' := [(ra, .inr (1, [.ref hp, .ref ah, .ref am, .ref at_, .ref asp, .ref afa, .ref ado, .ref adt, .ref aor, .int (nI cr), .int (nI ho), .int (nI nx), .int (nI ba), .int (nI pl), .int (nI tk), .long rr])), (am, .inl (cI, 16, .inl mv))]) [1, 0] rfl
  have hD := hD.sub (ws' := [(ra, .inr (1, [.ref hp, .ref ah, .ref am, .ref at_, .ref asp, .ref afa, .ref ado, .ref adt, .ref aor, .int (nI cr), .int (nI ho), .int (nI nx), .int (nI ba), .int (nI pl), .int (nI tk), .long rr])), (am, .inl (cI, 16, .inl mv))]) [1, 0] (by decide) rfl
  exact z_iret hx hb hr hlocks hP hK hD hS zd_Q_movesOf_18 (by decide) (by decide) ⟨rfl, rfl⟩
set_option maxHeartbeats 4000000 in
set_option maxRecDepth 100000 in
/--  -/
theorem k_Race_shareInPlace_k (l : Launch) (dC : Nat → ClassId) (dI : Nat → Nat → Nat) (cI cJ cZ : ClassId) (ra : Nat) (hp : Nat) (ah : Nat) (am : Nat) (at_ : Nat) (asp : Nat) (afa : Nat) (ado : Nat) (adt : Nat) (aor : Nat) (cr : Nat) (ho : Nat) (nx : Nat) (ba : Nat) (pl : Nat) (tk : Nat) (rr : Int64) (od : Nat → Int32) (j : Nat) (hpl : pl ≤ 16) (hj : j < pl) (sz : Nat) : zMi l zy_Q_shareInPlace zw_Q_shareInPlace ({ frames := 1, cells := 0, slots := 0, locals := 21 }) [.ref ra, .int (nI j)] (dC, dI) zcl [(cI, .int), (cJ, .long), (cZ, .boolean)] [(ra, .inr (1, [.ref hp, .ref ah, .ref am, .ref at_, .ref asp, .ref afa, .ref ado, .ref adt, .ref aor, .int (nI cr), .int (nI ho), .int (nI nx), .int (nI ba), .int (nI pl), .int (nI tk), .long rr])), (aor, .inl (cI, 16, .inl od))] sz (fun (r : Int32) (u : va_W) => r = od j ∧ u = [(ra, .inr (1, [.ref hp, .ref ah, .ref am, .ref at_, .ref asp, .ref afa, .ref ado, .ref adt, .ref aor, .int (nI cr), .int (nI ho), .int (nI nx), .int (nI ba), .int (nI pl), .int (nI tk), .long rr])), (aor, .inl (cI, 16, .inl od))]) := by
  refine z_ofi (cc := zc_Q_shareInPlace) (maxL := 2) (ret := (some .int)) (by decide) rfl (Nat.le_of_ble_eq_true rfl) ?_
  intro p e s m below meth c A ls hx hb hr hml hown htz hlocks hin hA hP hK hD hS hl
  have hown : s.vm.findClass zR_Q = some m.cls := hown
  have hl : lv_has ls 2 [(0, .ref ra), (1, .int (nI j))] := hl
  refine lv_aload_n hx hb zd_Q_shareInPlace_0 rfl (lv_at hl 0 rfl) ?_
  refine lv_iload_n hx hb zd_Q_shareInPlace_1 rfl (lv_at hl 1 rfl) ?_
  refine z_Vi (As := [.int (nI j)]) (rest := []) (wc := [(ra, .inr (1, [.ref hp, .ref ah, .ref am, .ref at_, .ref asp, .ref afa, .ref ado, .ref adt, .ref aor, .int (nI cr), .int (nI ho), .int (nI nx), .int (nI ba), .int (nI pl), .int (nI tk), .long rr]))]) (wr := [(aor, .inl (cI, 16, .inl od))]) ⟨hx, hb, hml, hown, htz⟩ hK hP hD hS hA (k_Race_hasPlace_k l dC dI cI cJ cZ ra hp ah am at_ asp afa ado adt aor cr ho nx ba pl tk rr j (by first | assumption | omega) (by first | assumption | omega) s.heap.size) (zcwV 1 htz zq_409 zq_415 zq_407 zq_408 zq_5 (by decide +kernel) ⟨Nat.le_of_ble_eq_true rfl, Nat.le_of_ble_eq_true rfl⟩) 0 1 rfl rfl [0] [1] rfl rfl rfl (by decide) rfl hl.1 rfl (Nat.le_of_ble_eq_true rfl) zd_Q_shareInPlace_2 ⟨Nat.le_of_ble_eq_true rfl, Nat.le_of_ble_eq_true rfl⟩ (fun r u H locs hw hP hD hS => ?_)
  obtain ⟨rfl, rfl⟩ := hw
  have hP : va_P (dC, dI) zcl [(aor, .inl (cI, 16, .inl od)), (ra, .inr (1, [.ref hp, .ref ah, .ref am, .ref at_, .ref asp, .ref afa, .ref ado, .ref adt, .ref aor, .int (nI cr), .int (nI ho), .int (nI nx), .int (nI ba), .int (nI pl), .int (nI tk), .long rr]))] H := hP
  have hD : va_D A [(aor, .inl (cI, 16, .inl od)), (ra, .inr (1, [.ref hp, .ref ah, .ref am, .ref at_, .ref asp, .ref afa, .ref ado, .ref adt, .ref aor, .int (nI cr), .int (nI ho), .int (nI nx), .int (nI ba), .int (nI pl), .int (nI tk), .long rr]))] := hD
  refine lv_if_eq (tgt := 17) hx hb zd_Q_shareInPlace_5 (by decide) (fun c1_ => absurd c1_ (by decide)) (fun _ => ?_)
  refine lv_aload_n hx hb zd_Q_shareInPlace_8 rfl (lv_at hl 0 rfl) ?_
  refine va_get (D := (dC, dI)) (ci := 1) (v := .ref aor) (C := zR_Q) (T := zF_Q) (N := 16) hx hb htz zi_Q hown hK hP 1 rfl rfl 8 (by decide) (htz _ zq_69) (fun _ h9 => h9) rfl zd_Q_shareInPlace_9 ?_
  refine lv_iload_n hx hb zd_Q_shareInPlace_12 rfl (lv_at hl 1 rfl) ?_
  refine z_iald hx hb hK hP 0 0 rfl rfl (j := j) (by omega) (by decide) zd_Q_shareInPlace_13 ?_
  refine lv_goto (tgt := 18) hx hb zd_Q_shareInPlace_14 (by decide) ?_
  have hP := hP.sub (ws' := [(ra, .inr (1, [.ref hp, .ref ah, .ref am, .ref at_, .ref asp, .ref afa, .ref ado, .ref adt, .ref aor, .int (nI cr), .int (nI ho), .int (nI nx), .int (nI ba), .int (nI pl), .int (nI tk), .long rr])), (aor, .inl (cI, 16, .inl od))]) [1, 0] rfl
  have hD := hD.sub (ws' := [(ra, .inr (1, [.ref hp, .ref ah, .ref am, .ref at_, .ref asp, .ref afa, .ref ado, .ref adt, .ref aor, .int (nI cr), .int (nI ho), .int (nI nx), .int (nI ba), .int (nI pl), .int (nI tk), .long rr])), (aor, .inl (cI, 16, .inl od))]) [1, 0] (by decide) rfl
  exact z_iret hx hb hr hlocks hP hK hD hS zd_Q_shareInPlace_18 (by decide) (by decide) ⟨rfl, rfl⟩
set_option maxHeartbeats 4000000 in
set_option maxRecDepth 100000 in
/--  -/
theorem k_Race_doerOf_k (l : Launch) (dC : Nat → ClassId) (dI : Nat → Nat → Nat) (cI cJ cZ : ClassId) (ra : Nat) (hp : Nat) (ah : Nat) (am : Nat) (at_ : Nat) (asp : Nat) (afa : Nat) (ado : Nat) (adt : Nat) (aor : Nat) (cr : Nat) (ho : Nat) (nx : Nat) (ba : Nat) (pl : Nat) (tk : Nat) (rr : Int64) (aw : Nat) (av : Nat) (az : Nat) (af : Nat) (n : Nat) (dr : Nat → Int32) (j : Nat) (hn : n ≤ 16) (hj : j < n) (sz : Nat) : zMi l zy_Q_doerOf zw_Q_doerOf ({ frames := 1, cells := 0, slots := 0, locals := 21 }) [.ref ra, .int (nI j)] (dC, dI) zcl [(cI, .int), (cJ, .long), (cZ, .boolean)] [(ra, .inr (1, [.ref hp, .ref ah, .ref am, .ref at_, .ref asp, .ref afa, .ref ado, .ref adt, .ref aor, .int (nI cr), .int (nI ho), .int (nI nx), .int (nI ba), .int (nI pl), .int (nI tk), .long rr])), (hp, .inr (0, [.int (nI n), .ref aw, .ref av, .ref az, .ref af])), (ado, .inl (cI, 16, .inl dr))] sz (fun (r : Int32) (u : va_W) => r = dr j ∧ u = [(ra, .inr (1, [.ref hp, .ref ah, .ref am, .ref at_, .ref asp, .ref afa, .ref ado, .ref adt, .ref aor, .int (nI cr), .int (nI ho), .int (nI nx), .int (nI ba), .int (nI pl), .int (nI tk), .long rr])), (hp, .inr (0, [.int (nI n), .ref aw, .ref av, .ref az, .ref af])), (ado, .inl (cI, 16, .inl dr))]) := by
  refine z_ofi (cc := zc_Q_doerOf) (maxL := 2) (ret := (some .int)) (by decide) rfl (Nat.le_of_ble_eq_true rfl) ?_
  intro p e s m below meth c A ls hx hb hr hml hown htz hlocks hin hA hP hK hD hS hl
  have hown : s.vm.findClass zR_Q = some m.cls := hown
  have hl : lv_has ls 2 [(0, .ref ra), (1, .int (nI j))] := hl
  refine lv_aload_n hx hb zd_Q_doerOf_0 rfl (lv_at hl 0 rfl) ?_
  refine va_get (D := (dC, dI)) (ci := 1) (v := .ref hp) (C := zR_Q) (T := zF_Q) (N := 16) hx hb htz zi_Q hown hK hP 0 rfl rfl 0 (by decide) (htz _ zq_61) (fun _ h9 => h9) rfl zd_Q_doerOf_1 ?_
  refine lv_iload_n hx hb zd_Q_doerOf_4 rfl (lv_at hl 1 rfl) ?_
  refine z_Vi (As := [.int (nI j)]) (rest := []) (wc := [(hp, .inr (0, [.int (nI n), .ref aw, .ref av, .ref az, .ref af]))]) (wr := [(ra, .inr (1, [.ref hp, .ref ah, .ref am, .ref at_, .ref asp, .ref afa, .ref ado, .ref adt, .ref aor, .int (nI cr), .int (nI ho), .int (nI nx), .int (nI ba), .int (nI pl), .int (nI tk), .long rr])), (ado, .inl (cI, 16, .inl dr))]) ⟨hx, hb, hml, hown, htz⟩ hK hP hD hS hA (k_Plan_has_k l dC dI cI cJ cZ hp aw av az af n j (by first | assumption | omega) (by first | assumption | omega) s.heap.size) (zcwV 1 htz zq_147 zq_304 zq_145 zq_146 zq_2 (by decide +kernel) ⟨Nat.le_of_ble_eq_true rfl, Nat.le_of_ble_eq_true rfl⟩) 1 0 rfl rfl [1] [0, 2] rfl rfl rfl (by decide) rfl hl.1 rfl (Nat.le_of_ble_eq_true rfl) zd_Q_doerOf_5 ⟨Nat.le_of_ble_eq_true rfl, Nat.le_of_ble_eq_true rfl⟩ (fun r u H locs hw hP hD hS => ?_)
  obtain ⟨rfl, rfl⟩ := hw
  have hP : va_P (dC, dI) zcl [(ra, .inr (1, [.ref hp, .ref ah, .ref am, .ref at_, .ref asp, .ref afa, .ref ado, .ref adt, .ref aor, .int (nI cr), .int (nI ho), .int (nI nx), .int (nI ba), .int (nI pl), .int (nI tk), .long rr])), (ado, .inl (cI, 16, .inl dr)), (hp, .inr (0, [.int (nI n), .ref aw, .ref av, .ref az, .ref af]))] H := hP
  have hD : va_D A [(ra, .inr (1, [.ref hp, .ref ah, .ref am, .ref at_, .ref asp, .ref afa, .ref ado, .ref adt, .ref aor, .int (nI cr), .int (nI ho), .int (nI nx), .int (nI ba), .int (nI pl), .int (nI tk), .long rr])), (ado, .inl (cI, 16, .inl dr)), (hp, .inr (0, [.int (nI n), .ref aw, .ref av, .ref az, .ref af]))] := hD
  refine lv_if_eq (tgt := 20) hx hb zd_Q_doerOf_8 (by decide) (fun c1_ => absurd c1_ (by decide)) (fun _ => ?_)
  refine lv_aload_n hx hb zd_Q_doerOf_11 rfl (lv_at hl 0 rfl) ?_
  refine va_get (D := (dC, dI)) (ci := 1) (v := .ref ado) (C := zR_Q) (T := zF_Q) (N := 16) hx hb htz zi_Q hown hK hP 0 rfl rfl 6 (by decide) (htz _ zq_67) (fun _ h9 => h9) rfl zd_Q_doerOf_12 ?_
  refine lv_iload_n hx hb zd_Q_doerOf_15 rfl (lv_at hl 1 rfl) ?_
  refine z_iald hx hb hK hP 1 0 rfl rfl (j := j) (by omega) (by decide) zd_Q_doerOf_16 ?_
  refine lv_goto (tgt := 21) hx hb zd_Q_doerOf_17 (by decide) ?_
  have hP := hP.sub (ws' := [(ra, .inr (1, [.ref hp, .ref ah, .ref am, .ref at_, .ref asp, .ref afa, .ref ado, .ref adt, .ref aor, .int (nI cr), .int (nI ho), .int (nI nx), .int (nI ba), .int (nI pl), .int (nI tk), .long rr])), (hp, .inr (0, [.int (nI n), .ref aw, .ref av, .ref az, .ref af])), (ado, .inl (cI, 16, .inl dr))]) [0, 2, 1] rfl
  have hD := hD.sub (ws' := [(ra, .inr (1, [.ref hp, .ref ah, .ref am, .ref at_, .ref asp, .ref afa, .ref ado, .ref adt, .ref aor, .int (nI cr), .int (nI ho), .int (nI nx), .int (nI ba), .int (nI pl), .int (nI tk), .long rr])), (hp, .inr (0, [.int (nI n), .ref aw, .ref av, .ref az, .ref af])), (ado, .inl (cI, 16, .inl dr))]) [0, 2, 1] (by decide) rfl
  exact z_iret hx hb hr hlocks hP hK hD hS zd_Q_doerOf_21 (by decide) (by decide) ⟨rfl, rfl⟩
set_option maxHeartbeats 4000000 in
set_option maxRecDepth 100000 in
/--  -/
theorem k_Race_failuresOf_k (l : Launch) (dC : Nat → ClassId) (dI : Nat → Nat → Nat) (cI cJ cZ : ClassId) (ra : Nat) (hp : Nat) (ah : Nat) (am : Nat) (at_ : Nat) (asp : Nat) (afa : Nat) (ado : Nat) (adt : Nat) (aor : Nat) (cr : Nat) (ho : Nat) (nx : Nat) (ba : Nat) (pl : Nat) (tk : Nat) (rr : Int64) (aw : Nat) (av : Nat) (az : Nat) (af : Nat) (n : Nat) (fa : Nat → Int32) (j : Nat) (hn : n ≤ 16) (hj : j < n) (sz : Nat) : zMi l zy_Q_failuresOf zw_Q_failuresOf ({ frames := 1, cells := 0, slots := 0, locals := 21 }) [.ref ra, .int (nI j)] (dC, dI) zcl [(cI, .int), (cJ, .long), (cZ, .boolean)] [(ra, .inr (1, [.ref hp, .ref ah, .ref am, .ref at_, .ref asp, .ref afa, .ref ado, .ref adt, .ref aor, .int (nI cr), .int (nI ho), .int (nI nx), .int (nI ba), .int (nI pl), .int (nI tk), .long rr])), (hp, .inr (0, [.int (nI n), .ref aw, .ref av, .ref az, .ref af])), (afa, .inl (cI, 16, .inl fa))] sz (fun (r : Int32) (u : va_W) => r = fa j ∧ u = [(ra, .inr (1, [.ref hp, .ref ah, .ref am, .ref at_, .ref asp, .ref afa, .ref ado, .ref adt, .ref aor, .int (nI cr), .int (nI ho), .int (nI nx), .int (nI ba), .int (nI pl), .int (nI tk), .long rr])), (hp, .inr (0, [.int (nI n), .ref aw, .ref av, .ref az, .ref af])), (afa, .inl (cI, 16, .inl fa))]) := by
  refine z_ofi (cc := zc_Q_failuresOf) (maxL := 2) (ret := (some .int)) (by decide) rfl (Nat.le_of_ble_eq_true rfl) ?_
  intro p e s m below meth c A ls hx hb hr hml hown htz hlocks hin hA hP hK hD hS hl
  have hown : s.vm.findClass zR_Q = some m.cls := hown
  have hl : lv_has ls 2 [(0, .ref ra), (1, .int (nI j))] := hl
  refine lv_aload_n hx hb zd_Q_failuresOf_0 rfl (lv_at hl 0 rfl) ?_
  refine va_get (D := (dC, dI)) (ci := 1) (v := .ref hp) (C := zR_Q) (T := zF_Q) (N := 16) hx hb htz zi_Q hown hK hP 0 rfl rfl 0 (by decide) (htz _ zq_61) (fun _ h9 => h9) rfl zd_Q_failuresOf_1 ?_
  refine lv_iload_n hx hb zd_Q_failuresOf_4 rfl (lv_at hl 1 rfl) ?_
  refine z_Vi (As := [.int (nI j)]) (rest := []) (wc := [(hp, .inr (0, [.int (nI n), .ref aw, .ref av, .ref az, .ref af]))]) (wr := [(ra, .inr (1, [.ref hp, .ref ah, .ref am, .ref at_, .ref asp, .ref afa, .ref ado, .ref adt, .ref aor, .int (nI cr), .int (nI ho), .int (nI nx), .int (nI ba), .int (nI pl), .int (nI tk), .long rr])), (afa, .inl (cI, 16, .inl fa))]) ⟨hx, hb, hml, hown, htz⟩ hK hP hD hS hA (k_Plan_has_k l dC dI cI cJ cZ hp aw av az af n j (by first | assumption | omega) (by first | assumption | omega) s.heap.size) (zcwV 1 htz zq_147 zq_304 zq_145 zq_146 zq_2 (by decide +kernel) ⟨Nat.le_of_ble_eq_true rfl, Nat.le_of_ble_eq_true rfl⟩) 1 0 rfl rfl [1] [0, 2] rfl rfl rfl (by decide) rfl hl.1 rfl (Nat.le_of_ble_eq_true rfl) zd_Q_failuresOf_5 ⟨Nat.le_of_ble_eq_true rfl, Nat.le_of_ble_eq_true rfl⟩ (fun r u H locs hw hP hD hS => ?_)
  obtain ⟨rfl, rfl⟩ := hw
  have hP : va_P (dC, dI) zcl [(ra, .inr (1, [.ref hp, .ref ah, .ref am, .ref at_, .ref asp, .ref afa, .ref ado, .ref adt, .ref aor, .int (nI cr), .int (nI ho), .int (nI nx), .int (nI ba), .int (nI pl), .int (nI tk), .long rr])), (afa, .inl (cI, 16, .inl fa)), (hp, .inr (0, [.int (nI n), .ref aw, .ref av, .ref az, .ref af]))] H := hP
  have hD : va_D A [(ra, .inr (1, [.ref hp, .ref ah, .ref am, .ref at_, .ref asp, .ref afa, .ref ado, .ref adt, .ref aor, .int (nI cr), .int (nI ho), .int (nI nx), .int (nI ba), .int (nI pl), .int (nI tk), .long rr])), (afa, .inl (cI, 16, .inl fa)), (hp, .inr (0, [.int (nI n), .ref aw, .ref av, .ref az, .ref af]))] := hD
  refine lv_if_eq (tgt := 20) hx hb zd_Q_failuresOf_8 (by decide) (fun c1_ => absurd c1_ (by decide)) (fun _ => ?_)
  refine lv_aload_n hx hb zd_Q_failuresOf_11 rfl (lv_at hl 0 rfl) ?_
  refine va_get (D := (dC, dI)) (ci := 1) (v := .ref afa) (C := zR_Q) (T := zF_Q) (N := 16) hx hb htz zi_Q hown hK hP 0 rfl rfl 5 (by decide) (htz _ zq_66) (fun _ h9 => h9) rfl zd_Q_failuresOf_12 ?_
  refine lv_iload_n hx hb zd_Q_failuresOf_15 rfl (lv_at hl 1 rfl) ?_
  refine z_iald hx hb hK hP 1 0 rfl rfl (j := j) (by omega) (by decide) zd_Q_failuresOf_16 ?_
  refine lv_goto (tgt := 21) hx hb zd_Q_failuresOf_17 (by decide) ?_
  have hP := hP.sub (ws' := [(ra, .inr (1, [.ref hp, .ref ah, .ref am, .ref at_, .ref asp, .ref afa, .ref ado, .ref adt, .ref aor, .int (nI cr), .int (nI ho), .int (nI nx), .int (nI ba), .int (nI pl), .int (nI tk), .long rr])), (hp, .inr (0, [.int (nI n), .ref aw, .ref av, .ref az, .ref af])), (afa, .inl (cI, 16, .inl fa))]) [0, 2, 1] rfl
  have hD := hD.sub (ws' := [(ra, .inr (1, [.ref hp, .ref ah, .ref am, .ref at_, .ref asp, .ref afa, .ref ado, .ref adt, .ref aor, .int (nI cr), .int (nI ho), .int (nI nx), .int (nI ba), .int (nI pl), .int (nI tk), .long rr])), (hp, .inr (0, [.int (nI n), .ref aw, .ref av, .ref az, .ref af])), (afa, .inl (cI, 16, .inl fa))]) [0, 2, 1] (by decide) rfl
  exact z_iret hx hb hr hlocks hP hK hD hS zd_Q_failuresOf_21 (by decide) (by decide) ⟨rfl, rfl⟩
set_option maxHeartbeats 4000000 in
set_option maxRecDepth 100000 in
/--  -/
theorem k_Race_doneTickOf_k (l : Launch) (dC : Nat → ClassId) (dI : Nat → Nat → Nat) (cI cJ cZ : ClassId) (ra : Nat) (hp : Nat) (ah : Nat) (am : Nat) (at_ : Nat) (asp : Nat) (afa : Nat) (ado : Nat) (adt : Nat) (aor : Nat) (cr : Nat) (ho : Nat) (nx : Nat) (ba : Nat) (pl : Nat) (tk : Nat) (rr : Int64) (aw : Nat) (av : Nat) (az : Nat) (af : Nat) (n : Nat) (dt : Nat → Int32) (j : Nat) (hn : n ≤ 16) (hj : j < n) (sz : Nat) : zMi l zy_Q_doneTickOf zw_Q_doneTickOf ({ frames := 1, cells := 0, slots := 0, locals := 21 }) [.ref ra, .int (nI j)] (dC, dI) zcl [(cI, .int), (cJ, .long), (cZ, .boolean)] [(ra, .inr (1, [.ref hp, .ref ah, .ref am, .ref at_, .ref asp, .ref afa, .ref ado, .ref adt, .ref aor, .int (nI cr), .int (nI ho), .int (nI nx), .int (nI ba), .int (nI pl), .int (nI tk), .long rr])), (hp, .inr (0, [.int (nI n), .ref aw, .ref av, .ref az, .ref af])), (adt, .inl (cI, 16, .inl dt))] sz (fun (r : Int32) (u : va_W) => r = dt j ∧ u = [(ra, .inr (1, [.ref hp, .ref ah, .ref am, .ref at_, .ref asp, .ref afa, .ref ado, .ref adt, .ref aor, .int (nI cr), .int (nI ho), .int (nI nx), .int (nI ba), .int (nI pl), .int (nI tk), .long rr])), (hp, .inr (0, [.int (nI n), .ref aw, .ref av, .ref az, .ref af])), (adt, .inl (cI, 16, .inl dt))]) := by
  refine z_ofi (cc := zc_Q_doneTickOf) (maxL := 2) (ret := (some .int)) (by decide) rfl (Nat.le_of_ble_eq_true rfl) ?_
  intro p e s m below meth c A ls hx hb hr hml hown htz hlocks hin hA hP hK hD hS hl
  have hown : s.vm.findClass zR_Q = some m.cls := hown
  have hl : lv_has ls 2 [(0, .ref ra), (1, .int (nI j))] := hl
  refine lv_aload_n hx hb zd_Q_doneTickOf_0 rfl (lv_at hl 0 rfl) ?_
  refine va_get (D := (dC, dI)) (ci := 1) (v := .ref hp) (C := zR_Q) (T := zF_Q) (N := 16) hx hb htz zi_Q hown hK hP 0 rfl rfl 0 (by decide) (htz _ zq_61) (fun _ h9 => h9) rfl zd_Q_doneTickOf_1 ?_
  refine lv_iload_n hx hb zd_Q_doneTickOf_4 rfl (lv_at hl 1 rfl) ?_
  refine z_Vi (As := [.int (nI j)]) (rest := []) (wc := [(hp, .inr (0, [.int (nI n), .ref aw, .ref av, .ref az, .ref af]))]) (wr := [(ra, .inr (1, [.ref hp, .ref ah, .ref am, .ref at_, .ref asp, .ref afa, .ref ado, .ref adt, .ref aor, .int (nI cr), .int (nI ho), .int (nI nx), .int (nI ba), .int (nI pl), .int (nI tk), .long rr])), (adt, .inl (cI, 16, .inl dt))]) ⟨hx, hb, hml, hown, htz⟩ hK hP hD hS hA (k_Plan_has_k l dC dI cI cJ cZ hp aw av az af n j (by first | assumption | omega) (by first | assumption | omega) s.heap.size) (zcwV 1 htz zq_147 zq_304 zq_145 zq_146 zq_2 (by decide +kernel) ⟨Nat.le_of_ble_eq_true rfl, Nat.le_of_ble_eq_true rfl⟩) 1 0 rfl rfl [1] [0, 2] rfl rfl rfl (by decide) rfl hl.1 rfl (Nat.le_of_ble_eq_true rfl) zd_Q_doneTickOf_5 ⟨Nat.le_of_ble_eq_true rfl, Nat.le_of_ble_eq_true rfl⟩ (fun r u H locs hw hP hD hS => ?_)
  obtain ⟨rfl, rfl⟩ := hw
  have hP : va_P (dC, dI) zcl [(ra, .inr (1, [.ref hp, .ref ah, .ref am, .ref at_, .ref asp, .ref afa, .ref ado, .ref adt, .ref aor, .int (nI cr), .int (nI ho), .int (nI nx), .int (nI ba), .int (nI pl), .int (nI tk), .long rr])), (adt, .inl (cI, 16, .inl dt)), (hp, .inr (0, [.int (nI n), .ref aw, .ref av, .ref az, .ref af]))] H := hP
  have hD : va_D A [(ra, .inr (1, [.ref hp, .ref ah, .ref am, .ref at_, .ref asp, .ref afa, .ref ado, .ref adt, .ref aor, .int (nI cr), .int (nI ho), .int (nI nx), .int (nI ba), .int (nI pl), .int (nI tk), .long rr])), (adt, .inl (cI, 16, .inl dt)), (hp, .inr (0, [.int (nI n), .ref aw, .ref av, .ref az, .ref af]))] := hD
  refine lv_if_eq (tgt := 20) hx hb zd_Q_doneTickOf_8 (by decide) (fun c1_ => absurd c1_ (by decide)) (fun _ => ?_)
  refine lv_aload_n hx hb zd_Q_doneTickOf_11 rfl (lv_at hl 0 rfl) ?_
  refine va_get (D := (dC, dI)) (ci := 1) (v := .ref adt) (C := zR_Q) (T := zF_Q) (N := 16) hx hb htz zi_Q hown hK hP 0 rfl rfl 7 (by decide) (htz _ zq_68) (fun _ h9 => h9) rfl zd_Q_doneTickOf_12 ?_
  refine lv_iload_n hx hb zd_Q_doneTickOf_15 rfl (lv_at hl 1 rfl) ?_
  refine z_iald hx hb hK hP 1 0 rfl rfl (j := j) (by omega) (by decide) zd_Q_doneTickOf_16 ?_
  refine lv_goto (tgt := 21) hx hb zd_Q_doneTickOf_17 (by decide) ?_
  have hP := hP.sub (ws' := [(ra, .inr (1, [.ref hp, .ref ah, .ref am, .ref at_, .ref asp, .ref afa, .ref ado, .ref adt, .ref aor, .int (nI cr), .int (nI ho), .int (nI nx), .int (nI ba), .int (nI pl), .int (nI tk), .long rr])), (hp, .inr (0, [.int (nI n), .ref aw, .ref av, .ref az, .ref af])), (adt, .inl (cI, 16, .inl dt))]) [0, 2, 1] rfl
  have hD := hD.sub (ws' := [(ra, .inr (1, [.ref hp, .ref ah, .ref am, .ref at_, .ref asp, .ref afa, .ref ado, .ref adt, .ref aor, .int (nI cr), .int (nI ho), .int (nI nx), .int (nI ba), .int (nI pl), .int (nI tk), .long rr])), (hp, .inr (0, [.int (nI n), .ref aw, .ref av, .ref az, .ref af])), (adt, .inl (cI, 16, .inl dt))]) [0, 2, 1] (by decide) rfl
  exact z_iret hx hb hr hlocks hP hK hD hS zd_Q_doneTickOf_21 (by decide) (by decide) ⟨rfl, rfl⟩
set_option maxHeartbeats 4000000 in
set_option maxRecDepth 100000 in
/--  -/
theorem k_Plan_has_m (l : Launch) (dC : Nat → ClassId) (dI : Nat → Nat → Nat) (cI cJ cZ : ClassId) (hp : Nat) (aw : Nat) (av : Nat) (az : Nat) (af : Nat) (n : Nat)  (sz : Nat) : zMi l zy_P_has zw_P_has ({ frames := 0, cells := 0, slots := 0, locals := 0 }) [.ref hp, .int (-1)] (dC, dI) zcl [(cI, .int), (cJ, .long), (cZ, .boolean)] [(hp, .inr (0, [.int (nI n), .ref aw, .ref av, .ref az, .ref af]))] sz (fun (r : Int32) (u : va_W) => r = nI 0 ∧ u = [(hp, .inr (0, [.int (nI n), .ref aw, .ref av, .ref az, .ref af]))]) := by
  refine z_ofi (cc := zc_P_has) (maxL := 2) (ret := (some .boolean)) (by decide) rfl (Nat.le_of_ble_eq_true rfl) ?_
  intro p e s m below meth c A ls hx hb hr hml hown htz hlocks hin hA hP hK hD hS hl
  have hown : s.vm.findClass zR_P = some m.cls := hown
  have hl : lv_has ls 2 [(0, .ref hp), (1, .int (-1))] := hl
  refine lv_iload_n hx hb zd_P_has_0 rfl (lv_at hl 1 rfl) ?_
  refine lv_if_lt (tgt := 16) hx hb zd_P_has_1 (by decide) (fun _ => ?_) (fun c1_ => absurd (by decide) c1_)
  refine lv_iconst (v := (nI 0)) hx hb zd_P_has_16 (by decide) ?_
  exact z_zret hx hb hr hlocks hP hK hD hS zd_P_has_17 (by decide) (by decide) rfl ⟨rfl, rfl⟩
set_option maxHeartbeats 4000000 in
set_option maxRecDepth 100000 in
/--  -/
theorem k_Plan_isBehindWinner_k (l : Launch) (dC : Nat → ClassId) (dI : Nat → Nat → Nat) (cI cJ cZ : ClassId) (hp : Nat) (aw : Nat) (av : Nat) (az : Nat) (af : Nat) (n : Nat) (se : Nat → Int32) (j : Nat) (hn : n ≤ 16) (hj : j < n) (sz : Nat) : zMi l zy_P_isBehindWinner zw_P_isBehindWinner ({ frames := 1, cells := 0, slots := 0, locals := 21 }) [.ref hp, .int (nI j)] (dC, dI) zcl [(cI, .int), (cJ, .long), (cZ, .boolean)] [(hp, .inr (0, [.int (nI n), .ref aw, .ref av, .ref az, .ref af])), (az, .inl (cZ, 16, .inl se))] sz (fun (r : Int32) (u : va_W) => (r = nI 1 ∧ u = [(hp, .inr (0, [.int (nI n), .ref aw, .ref av, .ref az, .ref af])), (az, .inl (cZ, 16, .inl se))] ∧ zwin se n < j) ∨ (r = nI 0 ∧ u = [(hp, .inr (0, [.int (nI n), .ref aw, .ref av, .ref az, .ref af])), (az, .inl (cZ, 16, .inl se))] ∧ j ≤ zwin se n)) := by
  refine z_ofi (cc := zc_P_isBehindWinner) (maxL := 3) (ret := (some .boolean)) (by decide) rfl (Nat.le_of_ble_eq_true rfl) ?_
  intro p e s m below meth c A ls hx hb hr hml hown htz hlocks hin hA hP hK hD hS hl
  have hown : s.vm.findClass zR_P = some m.cls := hown
  have hl : lv_has ls 3 [(0, .ref hp), (1, .int (nI j))] := hl
  refine lv_aload_n hx hb zd_P_isBehindWinner_0 rfl (lv_at hl 0 rfl) ?_
  refine z_Vi (As := []) (rest := []) (wc := [(hp, .inr (0, [.int (nI n), .ref aw, .ref av, .ref az, .ref af])), (az, .inl (cZ, 16, .inl se))]) (wr := []) ⟨hx, hb, hml, hown, htz⟩ hK hP hD hS hA (k_Plan_winner l dC dI cI cJ cZ hp aw av az af n se (by first | assumption | omega) s.heap.size) (zcwV 0 htz zq_332 zq_365 zq_330 zq_331 zq_2 (by decide +kernel) ⟨Nat.le_of_ble_eq_true rfl, Nat.le_of_ble_eq_true rfl⟩) 0 0 rfl rfl [0, 1] [] rfl rfl rfl (by decide) rfl hl.1 rfl (Nat.le_of_ble_eq_true rfl) zd_P_isBehindWinner_1 ⟨Nat.le_of_ble_eq_true rfl, Nat.le_of_ble_eq_true rfl⟩ (fun r u H locs hw hP hD hS => ?_)
  rcases hw with ⟨rfl, rfl, hw1_⟩ | ⟨rfl, rfl, hw2_⟩
  · have hP : va_P (dC, dI) zcl [(hp, .inr (0, [.int (nI n), .ref aw, .ref av, .ref az, .ref af])), (az, .inl (cZ, 16, .inl se))] H := hP
    have hD : va_D A [(hp, .inr (0, [.int (nI n), .ref aw, .ref av, .ref az, .ref af])), (az, .inl (cZ, 16, .inl se))] := hD
    have hw9 := hw1_
    refine lv_istore_n (lv' := [(2, .int (nI (zwin se n))), (0, .ref hp), (1, .int (nI j))]) hx hb zd_P_isBehindWinner_4 rfl hl (by decide) rfl (fun ls hl => ?_)
    refine lv_iload_n hx hb zd_P_isBehindWinner_5 rfl (lv_at hl 0 rfl) ?_
    refine lv_iconst (v := (-1)) hx hb zd_P_isBehindWinner_6 (by decide) ?_
    refine lv_icmp_eq (tgt := 19) hx hb zd_P_isBehindWinner_7 (by decide) (fun c3_ => absurd c3_ (nI_nm1 (by omega))) (fun c3_ => ?_)
    refine lv_iload_n hx hb zd_P_isBehindWinner_10 rfl (lv_at hl 2 rfl) ?_
    refine lv_iload_n hx hb zd_P_isBehindWinner_11 rfl (lv_at hl 0 rfl) ?_
    refine lv_icmp_le (tgt := 19) hx hb zd_P_isBehindWinner_12 (by decide) (fun c4_ => ?_) (fun c4_ => ?_)
    · have hb9 : j ≤ zwin se n := Nat.le_of_not_lt (fun h => nI_ge h (by omega) c4_)
      refine lv_iconst (v := (nI 0)) hx hb zd_P_isBehindWinner_19 (by decide) ?_
      exact z_zret hx hb hr hlocks hP hK hD hS zd_P_isBehindWinner_20 (by decide) (by decide) rfl (Or.inr ⟨rfl, rfl, by first | exact hb9 | omega⟩)
    · have hb9 : zwin se n < j := Nat.lt_of_not_le (fun h => c4_ (nI_le h (by omega)))
      refine lv_iconst (v := (nI 1)) hx hb zd_P_isBehindWinner_15 (by decide) ?_
      refine lv_goto (tgt := 20) hx hb zd_P_isBehindWinner_16 (by decide) ?_
      exact z_zret hx hb hr hlocks hP hK hD hS zd_P_isBehindWinner_20 (by decide) (by decide) rfl (Or.inl ⟨rfl, rfl, hb9⟩)
  · have hP : va_P (dC, dI) zcl [(hp, .inr (0, [.int (nI n), .ref aw, .ref av, .ref az, .ref af])), (az, .inl (cZ, 16, .inl se))] H := hP
    have hD : va_D A [(hp, .inr (0, [.int (nI n), .ref aw, .ref av, .ref az, .ref af])), (az, .inl (cZ, 16, .inl se))] := hD
    have hw9 := hw2_
    refine lv_istore_n (lv' := [(2, .int (-1)), (0, .ref hp), (1, .int (nI j))]) hx hb zd_P_isBehindWinner_4 rfl hl (by decide) rfl (fun ls hl => ?_)
    refine lv_iload_n hx hb zd_P_isBehindWinner_5 rfl (lv_at hl 0 rfl) ?_
    refine lv_iconst (v := (-1)) hx hb zd_P_isBehindWinner_6 (by decide) ?_
    refine lv_icmp_eq (tgt := 19) hx hb zd_P_isBehindWinner_7 (by decide) (fun c5_ => ?_) (fun c5_ => absurd rfl c5_)
    refine lv_iconst (v := (nI 0)) hx hb zd_P_isBehindWinner_19 (by decide) ?_
    exact z_zret hx hb hr hlocks hP hK hD hS zd_P_isBehindWinner_20 (by decide) (by decide) rfl (Or.inr ⟨rfl, rfl, by first | exact hb9 | omega⟩)
set_option maxHeartbeats 4000000 in
set_option maxRecDepth 100000 in
/--  -/
theorem k_Plan_sumOfWorths (l : Launch) (dC : Nat → ClassId) (dI : Nat → Nat → Nat) (cI cJ cZ : ClassId) (hp : Nat) (aw : Nat) (av : Nat) (az : Nat) (af : Nat) (n : Nat) (wo : Nat → Int64) (hn : n ≤ 16) (sz : Nat) : zMl l zy_P_sumOfWorths zw_P_sumOfWorths ({ frames := 0, cells := 0, slots := 0, locals := 0 }) [.ref hp] (dC, dI) zcl [(cI, .int), (cJ, .long), (cZ, .boolean)] [(hp, .inr (0, [.int (nI n), .ref aw, .ref av, .ref az, .ref af])), (av, .inl (cJ, 16, .inr (.inl wo)))] sz (fun (r : Int64) (u : va_W) => r = zsum wo n ∧ u = [(hp, .inr (0, [.int (nI n), .ref aw, .ref av, .ref az, .ref af])), (av, .inl (cJ, 16, .inr (.inl wo)))]) := by
  refine z_ofl (cc := zc_P_sumOfWorths) (maxL := 4) (ret := (some .long)) (by decide) rfl (Nat.le_of_ble_eq_true rfl) ?_
  intro p e s m below meth c A ls hx hb hr hml hown htz hlocks hin hA hP hK hD hS hl
  have hown : s.vm.findClass zR_P = some m.cls := hown
  have hl : lv_has ls 4 [(0, .ref hp)] := hl
  refine lv_lconst (v := 0) hx hb zd_P_sumOfWorths_0 (by decide) ?_
  refine lv_lstore_n (lv' := [(1, .long 0), (0, .ref hp)]) hx hb zd_P_sumOfWorths_1 rfl hl (by decide) rfl (fun ls hl => ?_)
  refine lv_iconst (v := (nI 0)) hx hb zd_P_sumOfWorths_2 (by decide) ?_
  refine lv_istore_n (lv' := [(3, .int (nI 0)), (1, .long 0), (0, .ref hp)]) hx hb zd_P_sumOfWorths_3 rfl hl (by decide) rfl (fun ls hl => ?_)
  have lp4 : ∀ (fuel : Nat) (k : Nat) (sm : Int64) (H : Heap) (locs : List Loc) (ls : Array Slot), (k ≤ n) → (sm = zsum wo k) → n - k < fuel → va_P (dC, dI) zcl [(hp, .inr (0, [.int (nI n), .ref aw, .ref av, .ref az, .ref af])), (av, .inl (cJ, 16, .inr (.inl wo)))] H → va_D A [(hp, .inr (0, [.int (nI n), .ref aw, .ref av, .ref az, .ref af])), (av, .inl (cJ, 16, .inr (.inl wo)))] → va_S A s.heap H locs → lv_has ls 4 [(3, .int (nI k)), (1, .long sm), (0, .ref hp)] → W p l e ({ frames := 0, cells := 0, slots := 0, locals := 0 } : Room) s m [.ref hp].toArray below meth c H locs 0 0 (MQ below (va_Ql (fun (r : Int64) (u : va_W) => r = zsum wo n ∧ u = [(hp, .inr (0, [.int (nI n), .ref aw, .ref av, .ref az, .ref af])), (av, .inl (cJ, 16, .inr (.inl wo)))]) (zAt (dC, dI) zcl [(cI, .int), (cJ, .long), (cZ, .boolean)] A) A) [.ref hp].toArray s 0 0 A) (F0 m 4 ls []) := by
    intro fuel
    induction fuel with
    | zero => intro k sm H locs ls hk hsm hf; exact absurd hf (Nat.not_lt_zero _)
    | succ fuel ih =>
      intro k sm H locs ls hk hsm hf hP hD hS hl
      refine lv_iload_n hx hb zd_P_sumOfWorths_4 rfl (lv_at hl 0 rfl) ?_
      refine lv_aload_n hx hb zd_P_sumOfWorths_5 rfl (lv_at hl 2 rfl) ?_
      refine va_get (D := (dC, dI)) (ci := 0) (v := .int (nI n)) (C := zR_P) (T := zF_P) (N := 5) hx hb htz zi_P hown hK hP 0 rfl rfl 0 (by decide) (htz _ zq_36) (fun _ h9 => h9) rfl zd_P_sumOfWorths_6 ?_
      refine lv_icmp_ge (tgt := 27) hx hb zd_P_sumOfWorths_9 (by decide) (fun c1_ => ?_) (fun c1_ => ?_)
      · have hk2 : k = n := Nat.le_antisymm hk (Nat.le_of_not_lt (fun h => nI_ge h (by omega) c1_))
        refine lv_lload_n hx hb zd_P_sumOfWorths_27 rfl (lv_at hl 1 rfl) ?_
        exact z_lret hx hb hr hlocks hP hK hD hS zd_P_sumOfWorths_28 (by decide) (by decide) ⟨by rw [hsm, hk2], rfl⟩
      · have hk2 : k < n := Nat.lt_of_not_le (fun h => c1_ (nI_le h (by omega)))
        refine lv_lload_n hx hb zd_P_sumOfWorths_12 rfl (lv_at hl 1 rfl) ?_
        refine lv_aload_n hx hb zd_P_sumOfWorths_13 rfl (lv_at hl 2 rfl) ?_
        refine va_get (D := (dC, dI)) (ci := 0) (v := .ref av) (C := zR_P) (T := zF_P) (N := 5) hx hb htz zi_P hown hK hP 0 rfl rfl 2 (by decide) (htz _ zq_38) (fun _ h9 => h9) rfl zd_P_sumOfWorths_14 ?_
        refine lv_iload_n hx hb zd_P_sumOfWorths_17 rfl (lv_at hl 0 rfl) ?_
        refine z_lald hx hb hK hP 1 1 rfl rfl (j := k) (by omega) (by decide) zd_P_sumOfWorths_18 ?_
        refine lv_ladd hx hb zd_P_sumOfWorths_19 ?_
        refine z_topl (y := zsum wo (k + 1)) (by rw [hsm]; rfl) ?_
        refine lv_lstore_n (lv' := [(1, .long (zsum wo (k + 1))), (3, .int (nI k)), (0, .ref hp)]) hx hb zd_P_sumOfWorths_20 rfl hl (by decide) rfl (fun ls hl => ?_)
        refine lv_iinc (v := (nI (k + 1))) (lv' := [(3, .int (nI (k + 1))), (1, .long (zsum wo (k + 1))), (0, .ref hp)]) hx hb zd_P_sumOfWorths_21 hl (k := 1) rfl (nI_1 k) (by decide) rfl (fun ls hl => ?_)
        refine lv_goto (tgt := 4) hx hb zd_P_sumOfWorths_24 (by decide) ?_
        exact ih (k + 1) (zsum wo (k + 1)) _ _ _ (by omega) rfl (by omega) hP hD hS hl
  exact lp4 _ 0 0 _ _ _ (Nat.zero_le _) rfl (Nat.lt_succ_self _) hP hD hS hl
set_option maxHeartbeats 4000000 in
set_option maxRecDepth 100000 in
/--  -/
theorem k_Plan_outcome (l : Launch) (dC : Nat → ClassId) (dI : Nat → Nat → Nat) (cI cJ cZ : ClassId) (hp : Nat) (aw : Nat) (av : Nat) (az : Nat) (af : Nat) (n : Nat) (wo : Nat → Int64) (se : Nat → Int32) (hn : n ≤ 16) (sz : Nat) : zMl l zy_P_outcome zw_P_outcome ({ frames := 1, cells := 0, slots := 0, locals := 23 }) [.ref hp] (dC, dI) zcl [(cI, .int), (cJ, .long), (cZ, .boolean)] [(hp, .inr (0, [.int (nI n), .ref aw, .ref av, .ref az, .ref af])), (av, .inl (cJ, 16, .inr (.inl wo))), (az, .inl (cZ, 16, .inl se))] sz (fun (r : Int64) (u : va_W) => r = zans se wo n ∧ u = [(hp, .inr (0, [.int (nI n), .ref aw, .ref av, .ref az, .ref af])), (av, .inl (cJ, 16, .inr (.inl wo))), (az, .inl (cZ, 16, .inl se))]) := by
  refine z_ofl (cc := zc_P_outcome) (maxL := 2) (ret := (some .long)) (by decide) rfl (Nat.le_of_ble_eq_true rfl) ?_
  intro p e s m below meth c A ls hx hb hr hml hown htz hlocks hin hA hP hK hD hS hl
  have hown : s.vm.findClass zR_P = some m.cls := hown
  have hl : lv_has ls 2 [(0, .ref hp)] := hl
  refine lv_aload_n hx hb zd_P_outcome_0 rfl (lv_at hl 0 rfl) ?_
  refine z_Vi (As := []) (rest := []) (wc := [(hp, .inr (0, [.int (nI n), .ref aw, .ref av, .ref az, .ref af])), (az, .inl (cZ, 16, .inl se))]) (wr := [(av, .inl (cJ, 16, .inr (.inl wo)))]) ⟨hx, hb, hml, hown, htz⟩ hK hP hD hS hA (k_Plan_winner l dC dI cI cJ cZ hp aw av az af n se (by first | assumption | omega) s.heap.size) (zcwV 0 htz zq_332 zq_365 zq_330 zq_331 zq_2 (by decide +kernel) ⟨Nat.le_of_ble_eq_true rfl, Nat.le_of_ble_eq_true rfl⟩) 0 0 rfl rfl [0, 2] [1] rfl rfl rfl (by decide) rfl hl.1 rfl (Nat.le_of_ble_eq_true rfl) zd_P_outcome_1 ⟨Nat.le_of_ble_eq_true rfl, Nat.le_of_ble_eq_true rfl⟩ (fun r u H locs hw hP hD hS => ?_)
  rcases hw with ⟨rfl, rfl, hw1_⟩ | ⟨rfl, rfl, hw2_⟩
  · have hP : va_P (dC, dI) zcl [(av, .inl (cJ, 16, .inr (.inl wo))), (hp, .inr (0, [.int (nI n), .ref aw, .ref av, .ref az, .ref af])), (az, .inl (cZ, 16, .inl se))] H := hP
    have hD : va_D A [(av, .inl (cJ, 16, .inr (.inl wo))), (hp, .inr (0, [.int (nI n), .ref aw, .ref av, .ref az, .ref af])), (az, .inl (cZ, 16, .inl se))] := hD
    have hw9 := hw1_
    refine lv_istore_n (lv' := [(1, .int (nI (zwin se n))), (0, .ref hp)]) hx hb zd_P_outcome_4 rfl hl (by decide) rfl (fun ls hl => ?_)
    refine lv_aload_n hx hb zd_P_outcome_5 rfl (lv_at hl 1 rfl) ?_
    refine lv_iload_n hx hb zd_P_outcome_6 rfl (lv_at hl 0 rfl) ?_
    refine z_Vi (As := [.int (nI (zwin se n))]) (rest := []) (wc := [(hp, .inr (0, [.int (nI n), .ref aw, .ref av, .ref az, .ref af]))]) (wr := [(av, .inl (cJ, 16, .inr (.inl wo))), (az, .inl (cZ, 16, .inl se))]) ⟨hx, hb, hml, hown, htz⟩ hK hP hD hS hA (k_Plan_has_k l dC dI cI cJ cZ hp aw av az af n (zwin se n) (by first | assumption | omega) (by first | assumption | omega) H.size) (zcwV 1 htz zq_147 zq_236 zq_145 zq_146 zq_2 (by decide +kernel) ⟨Nat.le_of_ble_eq_true rfl, Nat.le_of_ble_eq_true rfl⟩) 1 0 rfl rfl [1] [0, 2] rfl rfl rfl (by decide) rfl hl.1 rfl (Nat.le_of_ble_eq_true rfl) zd_P_outcome_7 ⟨Nat.le_of_ble_eq_true rfl, Nat.le_of_ble_eq_true rfl⟩ (fun r u H locs hw hP hD hS => ?_)
    obtain ⟨rfl, rfl⟩ := hw
    have hP : va_P (dC, dI) zcl [(av, .inl (cJ, 16, .inr (.inl wo))), (az, .inl (cZ, 16, .inl se)), (hp, .inr (0, [.int (nI n), .ref aw, .ref av, .ref az, .ref af]))] H := hP
    have hD : va_D A [(av, .inl (cJ, 16, .inr (.inl wo))), (az, .inl (cZ, 16, .inl se)), (hp, .inr (0, [.int (nI n), .ref aw, .ref av, .ref az, .ref af]))] := hD
    refine lv_if_eq (tgt := 22) hx hb zd_P_outcome_10 (by decide) (fun c3_ => absurd c3_ (by decide)) (fun _ => ?_)
    refine lv_aload_n hx hb zd_P_outcome_13 rfl (lv_at hl 1 rfl) ?_
    refine va_get (D := (dC, dI)) (ci := 0) (v := .ref av) (C := zR_P) (T := zF_P) (N := 5) hx hb htz zi_P hown hK hP 2 rfl rfl 2 (by decide) (htz _ zq_38) (fun _ h9 => h9) rfl zd_P_outcome_14 ?_
    refine lv_iload_n hx hb zd_P_outcome_17 rfl (lv_at hl 0 rfl) ?_
    refine z_lald hx hb hK hP 0 1 rfl rfl (j := (zwin se n)) (by omega) (by decide) zd_P_outcome_18 ?_
    refine lv_goto (tgt := 26) hx hb zd_P_outcome_19 (by decide) ?_
    have hP := hP.sub (ws' := [(hp, .inr (0, [.int (nI n), .ref aw, .ref av, .ref az, .ref af])), (av, .inl (cJ, 16, .inr (.inl wo))), (az, .inl (cZ, 16, .inl se))]) [2, 0, 1] rfl
    have hD := hD.sub (ws' := [(hp, .inr (0, [.int (nI n), .ref aw, .ref av, .ref az, .ref af])), (av, .inl (cJ, 16, .inr (.inl wo))), (az, .inl (cZ, 16, .inl se))]) [2, 0, 1] (by decide) rfl
    exact z_lret hx hb hr hlocks hP hK hD hS zd_P_outcome_26 (by decide) (by decide) ⟨by simp only [zans]; rw [if_pos hw9], rfl⟩
  · have hP : va_P (dC, dI) zcl [(av, .inl (cJ, 16, .inr (.inl wo))), (hp, .inr (0, [.int (nI n), .ref aw, .ref av, .ref az, .ref af])), (az, .inl (cZ, 16, .inl se))] H := hP
    have hD : va_D A [(av, .inl (cJ, 16, .inr (.inl wo))), (hp, .inr (0, [.int (nI n), .ref aw, .ref av, .ref az, .ref af])), (az, .inl (cZ, 16, .inl se))] := hD
    have hw9 := hw2_
    refine lv_istore_n (lv' := [(1, .int (-1)), (0, .ref hp)]) hx hb zd_P_outcome_4 rfl hl (by decide) rfl (fun ls hl => ?_)
    refine lv_aload_n hx hb zd_P_outcome_5 rfl (lv_at hl 1 rfl) ?_
    refine lv_iload_n hx hb zd_P_outcome_6 rfl (lv_at hl 0 rfl) ?_
    refine z_Vi (As := [.int (-1)]) (rest := []) (wc := [(hp, .inr (0, [.int (nI n), .ref aw, .ref av, .ref az, .ref af]))]) (wr := [(av, .inl (cJ, 16, .inr (.inl wo))), (az, .inl (cZ, 16, .inl se))]) ⟨hx, hb, hml, hown, htz⟩ hK hP hD hS hA (k_Plan_has_m l dC dI cI cJ cZ hp aw av az af n H.size) (zcwV 1 htz zq_147 zq_236 zq_145 zq_146 zq_2 (by decide +kernel) ⟨Nat.le_of_ble_eq_true rfl, Nat.le_of_ble_eq_true rfl⟩) 1 0 rfl rfl [1] [0, 2] rfl rfl rfl (by decide) rfl hl.1 rfl (Nat.le_of_ble_eq_true rfl) zd_P_outcome_7 ⟨Nat.le_of_ble_eq_true rfl, Nat.le_of_ble_eq_true rfl⟩ (fun r u H locs hw hP hD hS => ?_)
    obtain ⟨rfl, rfl⟩ := hw
    have hP : va_P (dC, dI) zcl [(av, .inl (cJ, 16, .inr (.inl wo))), (az, .inl (cZ, 16, .inl se)), (hp, .inr (0, [.int (nI n), .ref aw, .ref av, .ref az, .ref af]))] H := hP
    have hD : va_D A [(av, .inl (cJ, 16, .inr (.inl wo))), (az, .inl (cZ, 16, .inl se)), (hp, .inr (0, [.int (nI n), .ref aw, .ref av, .ref az, .ref af]))] := hD
    refine lv_if_eq (tgt := 22) hx hb zd_P_outcome_10 (by decide) (fun _ => ?_) (fun c4_ => absurd (by decide) c4_)
    refine lv_aload_n hx hb zd_P_outcome_22 rfl (lv_at hl 1 rfl) ?_
    refine z_Vl (As := []) (rest := []) (wc := [(hp, .inr (0, [.int (nI n), .ref aw, .ref av, .ref az, .ref af])), (av, .inl (cJ, 16, .inr (.inl wo)))]) (wr := [(az, .inl (cZ, 16, .inl se))]) ⟨hx, hb, hml, hown, htz⟩ hK hP hD hS hA (k_Plan_sumOfWorths l dC dI cI cJ cZ hp aw av az af n wo (by first | assumption | omega) H.size) (zcwV 0 htz zq_369 zq_366 zq_368 zp_13 zq_2 (by decide +kernel) ⟨Nat.le_of_ble_eq_true rfl, Nat.le_of_ble_eq_true rfl⟩) 2 0 rfl rfl [2, 0] [1] rfl rfl rfl (by decide) rfl hl.1 rfl (Nat.le_of_ble_eq_true rfl) zd_P_outcome_23 ⟨Nat.le_of_ble_eq_true rfl, Nat.le_of_ble_eq_true rfl⟩ (fun r u H locs hw hP hD hS => ?_)
    obtain ⟨rfl, rfl⟩ := hw
    have hP : va_P (dC, dI) zcl [(az, .inl (cZ, 16, .inl se)), (hp, .inr (0, [.int (nI n), .ref aw, .ref av, .ref az, .ref af])), (av, .inl (cJ, 16, .inr (.inl wo)))] H := hP
    have hD : va_D A [(az, .inl (cZ, 16, .inl se)), (hp, .inr (0, [.int (nI n), .ref aw, .ref av, .ref az, .ref af])), (av, .inl (cJ, 16, .inr (.inl wo)))] := hD
    have hP := hP.sub (ws' := [(hp, .inr (0, [.int (nI n), .ref aw, .ref av, .ref az, .ref af])), (av, .inl (cJ, 16, .inr (.inl wo))), (az, .inl (cZ, 16, .inl se))]) [1, 2, 0] rfl
    have hD := hD.sub (ws' := [(hp, .inr (0, [.int (nI n), .ref aw, .ref av, .ref az, .ref af])), (av, .inl (cJ, 16, .inr (.inl wo))), (az, .inl (cZ, 16, .inl se))]) [1, 2, 0] (by decide) rfl
    exact z_lret hx hb hr hlocks hP hK hD hS zd_P_outcome_26 (by decide) (by decide) ⟨by simp only [zans]; rw [if_neg (by omega)], rfl⟩
set_option maxHeartbeats 4000000 in
set_option maxRecDepth 100000 in
/--  -/
theorem k_Plan_change_k (l : Launch) (dC : Nat → ClassId) (dI : Nat → Nat → Nat) (cI cJ cZ : ClassId) (hp : Nat) (aw : Nat) (av : Nat) (az : Nat) (af : Nat) (n : Nat) (wk : Nat → Int32) (wo : Nat → Int64) (se : Nat → Int32) (j : Nat) (w : Int32) (v : Int64) (b : Int32) (hn : n ≤ 16) (hj : j < n) (hbb : vp_nar .boolean b = b) (sz : Nat) : zMi l zy_P_change zw_P_change ({ frames := 1, cells := 0, slots := 0, locals := 21 }) [.ref hp, .int (nI j), .int w, .long v, .int b] (dC, dI) zcl [(cI, .int), (cJ, .long), (cZ, .boolean)] [(hp, .inr (0, [.int (nI n), .ref aw, .ref av, .ref az, .ref af])), (aw, .inl (cI, 16, .inl wk)), (av, .inl (cJ, 16, .inr (.inl wo))), (az, .inl (cZ, 16, .inl se))] sz (fun (r : Int32) (u : va_W) => (r = nI 1 ∧ u = [(hp, .inr (0, [.int (nI n), .ref aw, .ref av, .ref az, .ref af])), (aw, .inl (cI, 16, .inl (upd wk j w))), (av, .inl (cJ, 16, .inr (.inl (vp_updL wo j v)))), (az, .inl (cZ, 16, .inl (upd se j b)))] ∧ ¬ (wk j = w ∧ wo j = v ∧ se j = b)) ∨ (r = nI 0 ∧ u = [(hp, .inr (0, [.int (nI n), .ref aw, .ref av, .ref az, .ref af])), (aw, .inl (cI, 16, .inl (upd wk j w))), (av, .inl (cJ, 16, .inr (.inl (vp_updL wo j v)))), (az, .inl (cZ, 16, .inl (upd se j b)))] ∧ wk j = w ∧ wo j = v ∧ se j = b)) := by
  refine z_ofi (cc := zc_P_change) (maxL := 7) (ret := (some .boolean)) (by decide) rfl (Nat.le_of_ble_eq_true rfl) ?_
  intro p e s m below meth c A ls hx hb hr hml hown htz hlocks hin hA hP hK hD hS hl
  have hown : s.vm.findClass zR_P = some m.cls := hown
  have hl : lv_has ls 7 [(0, .ref hp), (1, .int (nI j)), (2, .int w), (3, .long v), (5, .int b)] := hl
  refine lv_aload_n hx hb zd_P_change_0 rfl (lv_at hl 0 rfl) ?_
  refine lv_iload_n hx hb zd_P_change_1 rfl (lv_at hl 1 rfl) ?_
  refine z_Vi (As := [.int (nI j)]) (rest := []) (wc := [(hp, .inr (0, [.int (nI n), .ref aw, .ref av, .ref az, .ref af]))]) (wr := [(aw, .inl (cI, 16, .inl wk)), (av, .inl (cJ, 16, .inr (.inl wo))), (az, .inl (cZ, 16, .inl se))]) ⟨hx, hb, hml, hown, htz⟩ hK hP hD hS hA (k_Plan_has_k l dC dI cI cJ cZ hp aw av az af n j (by first | assumption | omega) (by first | assumption | omega) s.heap.size) (zcwV 1 htz zq_147 zq_236 zq_145 zq_146 zq_2 (by decide +kernel) ⟨Nat.le_of_ble_eq_true rfl, Nat.le_of_ble_eq_true rfl⟩) 0 0 rfl rfl [0] [1, 2, 3] rfl rfl rfl (by decide) rfl hl.1 rfl (Nat.le_of_ble_eq_true rfl) zd_P_change_2 ⟨Nat.le_of_ble_eq_true rfl, Nat.le_of_ble_eq_true rfl⟩ (fun r u H locs hw hP hD hS => ?_)
  obtain ⟨rfl, rfl⟩ := hw
  have hP : va_P (dC, dI) zcl [(aw, .inl (cI, 16, .inl wk)), (av, .inl (cJ, 16, .inr (.inl wo))), (az, .inl (cZ, 16, .inl se)), (hp, .inr (0, [.int (nI n), .ref aw, .ref av, .ref az, .ref af]))] H := hP
  have hD : va_D A [(aw, .inl (cI, 16, .inl wk)), (av, .inl (cJ, 16, .inr (.inl wo))), (az, .inl (cZ, 16, .inl se)), (hp, .inr (0, [.int (nI n), .ref aw, .ref av, .ref az, .ref af]))] := hD
  refine lv_if_ne (tgt := 10) hx hb zd_P_change_5 (by decide) (fun _ => ?_) (fun c1_ => absurd c1_ (by decide))
  refine lv_aload_n hx hb zd_P_change_10 rfl (lv_at hl 0 rfl) ?_
  refine va_get (D := (dC, dI)) (ci := 0) (v := .ref aw) (C := zR_P) (T := zF_P) (N := 5) hx hb htz zi_P hown hK hP 3 rfl rfl 1 (by decide) (htz _ zq_37) (fun _ h9 => h9) rfl zd_P_change_11 ?_
  refine lv_iload_n hx hb zd_P_change_14 rfl (lv_at hl 1 rfl) ?_
  refine z_iald hx hb hK hP 0 0 rfl rfl (j := j) (by omega) (by decide) zd_P_change_15 ?_
  refine lv_iload_n hx hb zd_P_change_16 rfl (lv_at hl 2 rfl) ?_
  refine lv_icmp_ne (tgt := 42) hx hb zd_P_change_17 (by decide) (fun c2_ => ?_) (fun c2_ => ?_)
  · have hc9 : ¬ (wk j = w ∧ wo j = v ∧ se j = b) := fun h => c2_ h.1
    refine lv_iconst (v := (nI 1)) hx hb zd_P_change_42 (by decide) ?_
    refine lv_goto (tgt := 47) hx hb zd_P_change_43 (by decide) ?_
    refine lv_istore (lv' := [(6, .int (nI 1)), (0, .ref hp), (1, .int (nI j)), (2, .int w), (3, .long v), (5, .int b)]) hx hb zd_P_change_47 hl (by decide) rfl (fun ls hl => ?_)
    refine lv_aload_n hx hb zd_P_change_49 rfl (lv_at hl 1 rfl) ?_
    refine va_get (D := (dC, dI)) (ci := 0) (v := .ref aw) (C := zR_P) (T := zF_P) (N := 5) hx hb htz zi_P hown hK hP 3 rfl rfl 1 (by decide) (htz _ zq_37) (fun _ h9 => h9) rfl zd_P_change_50 ?_
    refine lv_iload_n hx hb zd_P_change_53 rfl (lv_at hl 2 rfl) ?_
    refine lv_iload_n hx hb zd_P_change_54 rfl (lv_at hl 3 rfl) ?_
    refine z_iast hx hb hK hP hD hS 0 0 rfl rfl (j := j) (by omega) (by decide) zd_P_change_55 (fun H locs hP hD hS => ?_)
    have hP : va_P (dC, dI) zcl [(aw, .inl (cI, 16, .inl (upd wk j w))), (av, .inl (cJ, 16, .inr (.inl wo))), (az, .inl (cZ, 16, .inl se)), (hp, .inr (0, [.int (nI n), .ref aw, .ref av, .ref az, .ref af]))] H := hP
    have hD : va_D A [(aw, .inl (cI, 16, .inl (upd wk j w))), (av, .inl (cJ, 16, .inr (.inl wo))), (az, .inl (cZ, 16, .inl se)), (hp, .inr (0, [.int (nI n), .ref aw, .ref av, .ref az, .ref af]))] := hD
    refine lv_aload_n hx hb zd_P_change_56 rfl (lv_at hl 1 rfl) ?_
    refine va_get (D := (dC, dI)) (ci := 0) (v := .ref av) (C := zR_P) (T := zF_P) (N := 5) hx hb htz zi_P hown hK hP 3 rfl rfl 2 (by decide) (htz _ zq_38) (fun _ h9 => h9) rfl zd_P_change_57 ?_
    refine lv_iload_n hx hb zd_P_change_60 rfl (lv_at hl 2 rfl) ?_
    refine lv_lload_n hx hb zd_P_change_61 rfl (lv_at hl 4 rfl) ?_
    refine z_last hx hb hK hP hD hS 1 1 rfl rfl (j := j) (by omega) (by decide) zd_P_change_62 (fun H locs hP hD hS => ?_)
    have hP : va_P (dC, dI) zcl [(aw, .inl (cI, 16, .inl (upd wk j w))), (av, .inl (cJ, 16, .inr (.inl (vp_updL wo j v)))), (az, .inl (cZ, 16, .inl se)), (hp, .inr (0, [.int (nI n), .ref aw, .ref av, .ref az, .ref af]))] H := hP
    have hD : va_D A [(aw, .inl (cI, 16, .inl (upd wk j w))), (av, .inl (cJ, 16, .inr (.inl (vp_updL wo j v)))), (az, .inl (cZ, 16, .inl se)), (hp, .inr (0, [.int (nI n), .ref aw, .ref av, .ref az, .ref af]))] := hD
    refine lv_aload_n hx hb zd_P_change_63 rfl (lv_at hl 1 rfl) ?_
    refine va_get (D := (dC, dI)) (ci := 0) (v := .ref az) (C := zR_P) (T := zF_P) (N := 5) hx hb htz zi_P hown hK hP 3 rfl rfl 3 (by decide) (htz _ zq_39) (fun _ h9 => h9) rfl zd_P_change_64 ?_
    refine lv_iload_n hx hb zd_P_change_67 rfl (lv_at hl 2 rfl) ?_
    refine lv_iload hx hb zd_P_change_68 (lv_at hl 5 rfl) ?_
    refine z_zast hx hb hK hP hD hS 2 2 rfl rfl (j := j) (by omega) (by decide) hbb zd_P_change_70 (fun H locs hP hD hS => ?_)
    have hP : va_P (dC, dI) zcl [(aw, .inl (cI, 16, .inl (upd wk j w))), (av, .inl (cJ, 16, .inr (.inl (vp_updL wo j v)))), (az, .inl (cZ, 16, .inl (upd se j b))), (hp, .inr (0, [.int (nI n), .ref aw, .ref av, .ref az, .ref af]))] H := hP
    have hD : va_D A [(aw, .inl (cI, 16, .inl (upd wk j w))), (av, .inl (cJ, 16, .inr (.inl (vp_updL wo j v)))), (az, .inl (cZ, 16, .inl (upd se j b))), (hp, .inr (0, [.int (nI n), .ref aw, .ref av, .ref az, .ref af]))] := hD
    refine lv_iload hx hb zd_P_change_71 (lv_at hl 0 rfl) ?_
    have hP := hP.sub (ws' := [(hp, .inr (0, [.int (nI n), .ref aw, .ref av, .ref az, .ref af])), (aw, .inl (cI, 16, .inl (upd wk j w))), (av, .inl (cJ, 16, .inr (.inl (vp_updL wo j v)))), (az, .inl (cZ, 16, .inl (upd se j b)))]) [3, 0, 1, 2] rfl
    have hD := hD.sub (ws' := [(hp, .inr (0, [.int (nI n), .ref aw, .ref av, .ref az, .ref af])), (aw, .inl (cI, 16, .inl (upd wk j w))), (av, .inl (cJ, 16, .inr (.inl (vp_updL wo j v)))), (az, .inl (cZ, 16, .inl (upd se j b)))]) [3, 0, 1, 2] (by decide) rfl
    exact z_zret hx hb hr hlocks hP hK hD hS zd_P_change_73 (by decide) (by decide) rfl (Or.inl ⟨rfl, rfl, hc9⟩)
  · have h1_ := c2_
    refine lv_aload_n hx hb zd_P_change_20 rfl (lv_at hl 0 rfl) ?_
    refine va_get (D := (dC, dI)) (ci := 0) (v := .ref av) (C := zR_P) (T := zF_P) (N := 5) hx hb htz zi_P hown hK hP 3 rfl rfl 2 (by decide) (htz _ zq_38) (fun _ h9 => h9) rfl zd_P_change_21 ?_
    refine lv_iload_n hx hb zd_P_change_24 rfl (lv_at hl 1 rfl) ?_
    refine z_lald hx hb hK hP 1 1 rfl rfl (j := j) (by omega) (by decide) zd_P_change_25 ?_
    refine lv_lload_n hx hb zd_P_change_26 rfl (lv_at hl 3 rfl) ?_
    refine W.lcmp hx hb zd_P_change_27 ?_
    refine lv_if_ne (tgt := 42) hx hb zd_P_change_28 (by decide) (fun c3_ => ?_) (fun c3_ => ?_)
    · have hc9 : ¬ (wk j = w ∧ wo j = v ∧ se j = b) := fun h => c3_ ((lg_cmp_eq _ _).mpr h.2.1)
      refine lv_iconst (v := (nI 1)) hx hb zd_P_change_42 (by decide) ?_
      refine lv_goto (tgt := 47) hx hb zd_P_change_43 (by decide) ?_
      refine lv_istore (lv' := [(6, .int (nI 1)), (0, .ref hp), (1, .int (nI j)), (2, .int w), (3, .long v), (5, .int b)]) hx hb zd_P_change_47 hl (by decide) rfl (fun ls hl => ?_)
      refine lv_aload_n hx hb zd_P_change_49 rfl (lv_at hl 1 rfl) ?_
      refine va_get (D := (dC, dI)) (ci := 0) (v := .ref aw) (C := zR_P) (T := zF_P) (N := 5) hx hb htz zi_P hown hK hP 3 rfl rfl 1 (by decide) (htz _ zq_37) (fun _ h9 => h9) rfl zd_P_change_50 ?_
      refine lv_iload_n hx hb zd_P_change_53 rfl (lv_at hl 2 rfl) ?_
      refine lv_iload_n hx hb zd_P_change_54 rfl (lv_at hl 3 rfl) ?_
      refine z_iast hx hb hK hP hD hS 0 0 rfl rfl (j := j) (by omega) (by decide) zd_P_change_55 (fun H locs hP hD hS => ?_)
      have hP : va_P (dC, dI) zcl [(aw, .inl (cI, 16, .inl (upd wk j w))), (av, .inl (cJ, 16, .inr (.inl wo))), (az, .inl (cZ, 16, .inl se)), (hp, .inr (0, [.int (nI n), .ref aw, .ref av, .ref az, .ref af]))] H := hP
      have hD : va_D A [(aw, .inl (cI, 16, .inl (upd wk j w))), (av, .inl (cJ, 16, .inr (.inl wo))), (az, .inl (cZ, 16, .inl se)), (hp, .inr (0, [.int (nI n), .ref aw, .ref av, .ref az, .ref af]))] := hD
      refine lv_aload_n hx hb zd_P_change_56 rfl (lv_at hl 1 rfl) ?_
      refine va_get (D := (dC, dI)) (ci := 0) (v := .ref av) (C := zR_P) (T := zF_P) (N := 5) hx hb htz zi_P hown hK hP 3 rfl rfl 2 (by decide) (htz _ zq_38) (fun _ h9 => h9) rfl zd_P_change_57 ?_
      refine lv_iload_n hx hb zd_P_change_60 rfl (lv_at hl 2 rfl) ?_
      refine lv_lload_n hx hb zd_P_change_61 rfl (lv_at hl 4 rfl) ?_
      refine z_last hx hb hK hP hD hS 1 1 rfl rfl (j := j) (by omega) (by decide) zd_P_change_62 (fun H locs hP hD hS => ?_)
      have hP : va_P (dC, dI) zcl [(aw, .inl (cI, 16, .inl (upd wk j w))), (av, .inl (cJ, 16, .inr (.inl (vp_updL wo j v)))), (az, .inl (cZ, 16, .inl se)), (hp, .inr (0, [.int (nI n), .ref aw, .ref av, .ref az, .ref af]))] H := hP
      have hD : va_D A [(aw, .inl (cI, 16, .inl (upd wk j w))), (av, .inl (cJ, 16, .inr (.inl (vp_updL wo j v)))), (az, .inl (cZ, 16, .inl se)), (hp, .inr (0, [.int (nI n), .ref aw, .ref av, .ref az, .ref af]))] := hD
      refine lv_aload_n hx hb zd_P_change_63 rfl (lv_at hl 1 rfl) ?_
      refine va_get (D := (dC, dI)) (ci := 0) (v := .ref az) (C := zR_P) (T := zF_P) (N := 5) hx hb htz zi_P hown hK hP 3 rfl rfl 3 (by decide) (htz _ zq_39) (fun _ h9 => h9) rfl zd_P_change_64 ?_
      refine lv_iload_n hx hb zd_P_change_67 rfl (lv_at hl 2 rfl) ?_
      refine lv_iload hx hb zd_P_change_68 (lv_at hl 5 rfl) ?_
      refine z_zast hx hb hK hP hD hS 2 2 rfl rfl (j := j) (by omega) (by decide) hbb zd_P_change_70 (fun H locs hP hD hS => ?_)
      have hP : va_P (dC, dI) zcl [(aw, .inl (cI, 16, .inl (upd wk j w))), (av, .inl (cJ, 16, .inr (.inl (vp_updL wo j v)))), (az, .inl (cZ, 16, .inl (upd se j b))), (hp, .inr (0, [.int (nI n), .ref aw, .ref av, .ref az, .ref af]))] H := hP
      have hD : va_D A [(aw, .inl (cI, 16, .inl (upd wk j w))), (av, .inl (cJ, 16, .inr (.inl (vp_updL wo j v)))), (az, .inl (cZ, 16, .inl (upd se j b))), (hp, .inr (0, [.int (nI n), .ref aw, .ref av, .ref az, .ref af]))] := hD
      refine lv_iload hx hb zd_P_change_71 (lv_at hl 0 rfl) ?_
      have hP := hP.sub (ws' := [(hp, .inr (0, [.int (nI n), .ref aw, .ref av, .ref az, .ref af])), (aw, .inl (cI, 16, .inl (upd wk j w))), (av, .inl (cJ, 16, .inr (.inl (vp_updL wo j v)))), (az, .inl (cZ, 16, .inl (upd se j b)))]) [3, 0, 1, 2] rfl
      have hD := hD.sub (ws' := [(hp, .inr (0, [.int (nI n), .ref aw, .ref av, .ref az, .ref af])), (aw, .inl (cI, 16, .inl (upd wk j w))), (av, .inl (cJ, 16, .inr (.inl (vp_updL wo j v)))), (az, .inl (cZ, 16, .inl (upd se j b)))]) [3, 0, 1, 2] (by decide) rfl
      exact z_zret hx hb hr hlocks hP hK hD hS zd_P_change_73 (by decide) (by decide) rfl (Or.inl ⟨rfl, rfl, hc9⟩)
    · have h2_ := (lg_cmp_eq _ _).mp c3_
      refine lv_aload_n hx hb zd_P_change_31 rfl (lv_at hl 0 rfl) ?_
      refine va_get (D := (dC, dI)) (ci := 0) (v := .ref az) (C := zR_P) (T := zF_P) (N := 5) hx hb htz zi_P hown hK hP 3 rfl rfl 3 (by decide) (htz _ zq_39) (fun _ h9 => h9) rfl zd_P_change_32 ?_
      refine lv_iload_n hx hb zd_P_change_35 rfl (lv_at hl 1 rfl) ?_
      refine z_zald hx hb hK hP 2 2 rfl rfl (j := j) (by omega) (by decide) zd_P_change_36 ?_
      refine lv_iload hx hb zd_P_change_37 (lv_at hl 4 rfl) ?_
      refine lv_icmp_eq (tgt := 46) hx hb zd_P_change_39 (by decide) (fun c4_ => ?_) (fun c4_ => ?_)
      · have hc9 : wk j = w ∧ wo j = v ∧ se j = b := ⟨h1_, h2_, c4_⟩
        refine lv_iconst (v := (nI 0)) hx hb zd_P_change_46 (by decide) ?_
        refine lv_istore (lv' := [(6, .int (nI 0)), (0, .ref hp), (1, .int (nI j)), (2, .int w), (3, .long v), (5, .int b)]) hx hb zd_P_change_47 hl (by decide) rfl (fun ls hl => ?_)
        refine lv_aload_n hx hb zd_P_change_49 rfl (lv_at hl 1 rfl) ?_
        refine va_get (D := (dC, dI)) (ci := 0) (v := .ref aw) (C := zR_P) (T := zF_P) (N := 5) hx hb htz zi_P hown hK hP 3 rfl rfl 1 (by decide) (htz _ zq_37) (fun _ h9 => h9) rfl zd_P_change_50 ?_
        refine lv_iload_n hx hb zd_P_change_53 rfl (lv_at hl 2 rfl) ?_
        refine lv_iload_n hx hb zd_P_change_54 rfl (lv_at hl 3 rfl) ?_
        refine z_iast hx hb hK hP hD hS 0 0 rfl rfl (j := j) (by omega) (by decide) zd_P_change_55 (fun H locs hP hD hS => ?_)
        have hP : va_P (dC, dI) zcl [(aw, .inl (cI, 16, .inl (upd wk j w))), (av, .inl (cJ, 16, .inr (.inl wo))), (az, .inl (cZ, 16, .inl se)), (hp, .inr (0, [.int (nI n), .ref aw, .ref av, .ref az, .ref af]))] H := hP
        have hD : va_D A [(aw, .inl (cI, 16, .inl (upd wk j w))), (av, .inl (cJ, 16, .inr (.inl wo))), (az, .inl (cZ, 16, .inl se)), (hp, .inr (0, [.int (nI n), .ref aw, .ref av, .ref az, .ref af]))] := hD
        refine lv_aload_n hx hb zd_P_change_56 rfl (lv_at hl 1 rfl) ?_
        refine va_get (D := (dC, dI)) (ci := 0) (v := .ref av) (C := zR_P) (T := zF_P) (N := 5) hx hb htz zi_P hown hK hP 3 rfl rfl 2 (by decide) (htz _ zq_38) (fun _ h9 => h9) rfl zd_P_change_57 ?_
        refine lv_iload_n hx hb zd_P_change_60 rfl (lv_at hl 2 rfl) ?_
        refine lv_lload_n hx hb zd_P_change_61 rfl (lv_at hl 4 rfl) ?_
        refine z_last hx hb hK hP hD hS 1 1 rfl rfl (j := j) (by omega) (by decide) zd_P_change_62 (fun H locs hP hD hS => ?_)
        have hP : va_P (dC, dI) zcl [(aw, .inl (cI, 16, .inl (upd wk j w))), (av, .inl (cJ, 16, .inr (.inl (vp_updL wo j v)))), (az, .inl (cZ, 16, .inl se)), (hp, .inr (0, [.int (nI n), .ref aw, .ref av, .ref az, .ref af]))] H := hP
        have hD : va_D A [(aw, .inl (cI, 16, .inl (upd wk j w))), (av, .inl (cJ, 16, .inr (.inl (vp_updL wo j v)))), (az, .inl (cZ, 16, .inl se)), (hp, .inr (0, [.int (nI n), .ref aw, .ref av, .ref az, .ref af]))] := hD
        refine lv_aload_n hx hb zd_P_change_63 rfl (lv_at hl 1 rfl) ?_
        refine va_get (D := (dC, dI)) (ci := 0) (v := .ref az) (C := zR_P) (T := zF_P) (N := 5) hx hb htz zi_P hown hK hP 3 rfl rfl 3 (by decide) (htz _ zq_39) (fun _ h9 => h9) rfl zd_P_change_64 ?_
        refine lv_iload_n hx hb zd_P_change_67 rfl (lv_at hl 2 rfl) ?_
        refine lv_iload hx hb zd_P_change_68 (lv_at hl 5 rfl) ?_
        refine z_zast hx hb hK hP hD hS 2 2 rfl rfl (j := j) (by omega) (by decide) hbb zd_P_change_70 (fun H locs hP hD hS => ?_)
        have hP : va_P (dC, dI) zcl [(aw, .inl (cI, 16, .inl (upd wk j w))), (av, .inl (cJ, 16, .inr (.inl (vp_updL wo j v)))), (az, .inl (cZ, 16, .inl (upd se j b))), (hp, .inr (0, [.int (nI n), .ref aw, .ref av, .ref az, .ref af]))] H := hP
        have hD : va_D A [(aw, .inl (cI, 16, .inl (upd wk j w))), (av, .inl (cJ, 16, .inr (.inl (vp_updL wo j v)))), (az, .inl (cZ, 16, .inl (upd se j b))), (hp, .inr (0, [.int (nI n), .ref aw, .ref av, .ref az, .ref af]))] := hD
        refine lv_iload hx hb zd_P_change_71 (lv_at hl 0 rfl) ?_
        have hP := hP.sub (ws' := [(hp, .inr (0, [.int (nI n), .ref aw, .ref av, .ref az, .ref af])), (aw, .inl (cI, 16, .inl (upd wk j w))), (av, .inl (cJ, 16, .inr (.inl (vp_updL wo j v)))), (az, .inl (cZ, 16, .inl (upd se j b)))]) [3, 0, 1, 2] rfl
        have hD := hD.sub (ws' := [(hp, .inr (0, [.int (nI n), .ref aw, .ref av, .ref az, .ref af])), (aw, .inl (cI, 16, .inl (upd wk j w))), (av, .inl (cJ, 16, .inr (.inl (vp_updL wo j v)))), (az, .inl (cZ, 16, .inl (upd se j b)))]) [3, 0, 1, 2] (by decide) rfl
        exact z_zret hx hb hr hlocks hP hK hD hS zd_P_change_73 (by decide) (by decide) rfl (Or.inr ⟨rfl, rfl, hc9⟩)
      · have hc9 : ¬ (wk j = w ∧ wo j = v ∧ se j = b) := fun h => c4_ h.2.2
        refine lv_iconst (v := (nI 1)) hx hb zd_P_change_42 (by decide) ?_
        refine lv_goto (tgt := 47) hx hb zd_P_change_43 (by decide) ?_
        refine lv_istore (lv' := [(6, .int (nI 1)), (0, .ref hp), (1, .int (nI j)), (2, .int w), (3, .long v), (5, .int b)]) hx hb zd_P_change_47 hl (by decide) rfl (fun ls hl => ?_)
        refine lv_aload_n hx hb zd_P_change_49 rfl (lv_at hl 1 rfl) ?_
        refine va_get (D := (dC, dI)) (ci := 0) (v := .ref aw) (C := zR_P) (T := zF_P) (N := 5) hx hb htz zi_P hown hK hP 3 rfl rfl 1 (by decide) (htz _ zq_37) (fun _ h9 => h9) rfl zd_P_change_50 ?_
        refine lv_iload_n hx hb zd_P_change_53 rfl (lv_at hl 2 rfl) ?_
        refine lv_iload_n hx hb zd_P_change_54 rfl (lv_at hl 3 rfl) ?_
        refine z_iast hx hb hK hP hD hS 0 0 rfl rfl (j := j) (by omega) (by decide) zd_P_change_55 (fun H locs hP hD hS => ?_)
        have hP : va_P (dC, dI) zcl [(aw, .inl (cI, 16, .inl (upd wk j w))), (av, .inl (cJ, 16, .inr (.inl wo))), (az, .inl (cZ, 16, .inl se)), (hp, .inr (0, [.int (nI n), .ref aw, .ref av, .ref az, .ref af]))] H := hP
        have hD : va_D A [(aw, .inl (cI, 16, .inl (upd wk j w))), (av, .inl (cJ, 16, .inr (.inl wo))), (az, .inl (cZ, 16, .inl se)), (hp, .inr (0, [.int (nI n), .ref aw, .ref av, .ref az, .ref af]))] := hD
        refine lv_aload_n hx hb zd_P_change_56 rfl (lv_at hl 1 rfl) ?_
        refine va_get (D := (dC, dI)) (ci := 0) (v := .ref av) (C := zR_P) (T := zF_P) (N := 5) hx hb htz zi_P hown hK hP 3 rfl rfl 2 (by decide) (htz _ zq_38) (fun _ h9 => h9) rfl zd_P_change_57 ?_
        refine lv_iload_n hx hb zd_P_change_60 rfl (lv_at hl 2 rfl) ?_
        refine lv_lload_n hx hb zd_P_change_61 rfl (lv_at hl 4 rfl) ?_
        refine z_last hx hb hK hP hD hS 1 1 rfl rfl (j := j) (by omega) (by decide) zd_P_change_62 (fun H locs hP hD hS => ?_)
        have hP : va_P (dC, dI) zcl [(aw, .inl (cI, 16, .inl (upd wk j w))), (av, .inl (cJ, 16, .inr (.inl (vp_updL wo j v)))), (az, .inl (cZ, 16, .inl se)), (hp, .inr (0, [.int (nI n), .ref aw, .ref av, .ref az, .ref af]))] H := hP
        have hD : va_D A [(aw, .inl (cI, 16, .inl (upd wk j w))), (av, .inl (cJ, 16, .inr (.inl (vp_updL wo j v)))), (az, .inl (cZ, 16, .inl se)), (hp, .inr (0, [.int (nI n), .ref aw, .ref av, .ref az, .ref af]))] := hD
        refine lv_aload_n hx hb zd_P_change_63 rfl (lv_at hl 1 rfl) ?_
        refine va_get (D := (dC, dI)) (ci := 0) (v := .ref az) (C := zR_P) (T := zF_P) (N := 5) hx hb htz zi_P hown hK hP 3 rfl rfl 3 (by decide) (htz _ zq_39) (fun _ h9 => h9) rfl zd_P_change_64 ?_
        refine lv_iload_n hx hb zd_P_change_67 rfl (lv_at hl 2 rfl) ?_
        refine lv_iload hx hb zd_P_change_68 (lv_at hl 5 rfl) ?_
        refine z_zast hx hb hK hP hD hS 2 2 rfl rfl (j := j) (by omega) (by decide) hbb zd_P_change_70 (fun H locs hP hD hS => ?_)
        have hP : va_P (dC, dI) zcl [(aw, .inl (cI, 16, .inl (upd wk j w))), (av, .inl (cJ, 16, .inr (.inl (vp_updL wo j v)))), (az, .inl (cZ, 16, .inl (upd se j b))), (hp, .inr (0, [.int (nI n), .ref aw, .ref av, .ref az, .ref af]))] H := hP
        have hD : va_D A [(aw, .inl (cI, 16, .inl (upd wk j w))), (av, .inl (cJ, 16, .inr (.inl (vp_updL wo j v)))), (az, .inl (cZ, 16, .inl (upd se j b))), (hp, .inr (0, [.int (nI n), .ref aw, .ref av, .ref az, .ref af]))] := hD
        refine lv_iload hx hb zd_P_change_71 (lv_at hl 0 rfl) ?_
        have hP := hP.sub (ws' := [(hp, .inr (0, [.int (nI n), .ref aw, .ref av, .ref az, .ref af])), (aw, .inl (cI, 16, .inl (upd wk j w))), (av, .inl (cJ, 16, .inr (.inl (vp_updL wo j v)))), (az, .inl (cZ, 16, .inl (upd se j b)))]) [3, 0, 1, 2] rfl
        have hD := hD.sub (ws' := [(hp, .inr (0, [.int (nI n), .ref aw, .ref av, .ref az, .ref af])), (aw, .inl (cI, 16, .inl (upd wk j w))), (av, .inl (cJ, 16, .inr (.inl (vp_updL wo j v)))), (az, .inl (cZ, 16, .inl (upd se j b)))]) [3, 0, 1, 2] (by decide) rfl
        exact z_zret hx hb hr hlocks hP hK hD hS zd_P_change_73 (by decide) (by decide) rfl (Or.inl ⟨rfl, rfl, hc9⟩)
set_option maxHeartbeats 4000000 in
set_option maxRecDepth 100000 in
/--  -/
theorem k_Plan_changeFaults_k (l : Launch) (dC : Nat → ClassId) (dI : Nat → Nat → Nat) (cI cJ cZ : ClassId) (hp : Nat) (aw : Nat) (av : Nat) (az : Nat) (af : Nat) (n : Nat) (fl : Nat → Int32) (j : Nat) (w : Int32) (hn : n ≤ 16) (hj : j < n) (sz : Nat) : zMi l zy_P_changeFaults zw_P_changeFaults ({ frames := 1, cells := 0, slots := 0, locals := 21 }) [.ref hp, .int (nI j), .int w] (dC, dI) zcl [(cI, .int), (cJ, .long), (cZ, .boolean)] [(hp, .inr (0, [.int (nI n), .ref aw, .ref av, .ref az, .ref af])), (af, .inl (cI, 16, .inl fl))] sz (fun (r : Int32) (u : va_W) => (r = nI 1 ∧ u = [(hp, .inr (0, [.int (nI n), .ref aw, .ref av, .ref az, .ref af])), (af, .inl (cI, 16, .inl (upd fl j w)))] ∧ ¬ fl j = w) ∨ (r = nI 0 ∧ u = [(hp, .inr (0, [.int (nI n), .ref aw, .ref av, .ref az, .ref af])), (af, .inl (cI, 16, .inl (upd fl j w)))] ∧ fl j = w)) := by
  refine z_ofi (cc := zc_P_changeFaults) (maxL := 4) (ret := (some .boolean)) (by decide) rfl (Nat.le_of_ble_eq_true rfl) ?_
  intro p e s m below meth c A ls hx hb hr hml hown htz hlocks hin hA hP hK hD hS hl
  have hown : s.vm.findClass zR_P = some m.cls := hown
  have hl : lv_has ls 4 [(0, .ref hp), (1, .int (nI j)), (2, .int w)] := hl
  refine lv_aload_n hx hb zd_P_changeFaults_0 rfl (lv_at hl 0 rfl) ?_
  refine lv_iload_n hx hb zd_P_changeFaults_1 rfl (lv_at hl 1 rfl) ?_
  refine z_Vi (As := [.int (nI j)]) (rest := []) (wc := [(hp, .inr (0, [.int (nI n), .ref aw, .ref av, .ref az, .ref af]))]) (wr := [(af, .inl (cI, 16, .inl fl))]) ⟨hx, hb, hml, hown, htz⟩ hK hP hD hS hA (k_Plan_has_k l dC dI cI cJ cZ hp aw av az af n j (by first | assumption | omega) (by first | assumption | omega) s.heap.size) (zcwV 1 htz zq_147 zq_236 zq_145 zq_146 zq_2 (by decide +kernel) ⟨Nat.le_of_ble_eq_true rfl, Nat.le_of_ble_eq_true rfl⟩) 0 0 rfl rfl [0] [1] rfl rfl rfl (by decide) rfl hl.1 rfl (Nat.le_of_ble_eq_true rfl) zd_P_changeFaults_2 ⟨Nat.le_of_ble_eq_true rfl, Nat.le_of_ble_eq_true rfl⟩ (fun r u H locs hw hP hD hS => ?_)
  obtain ⟨rfl, rfl⟩ := hw
  have hP : va_P (dC, dI) zcl [(af, .inl (cI, 16, .inl fl)), (hp, .inr (0, [.int (nI n), .ref aw, .ref av, .ref az, .ref af]))] H := hP
  have hD : va_D A [(af, .inl (cI, 16, .inl fl)), (hp, .inr (0, [.int (nI n), .ref aw, .ref av, .ref az, .ref af]))] := hD
  refine lv_if_ne (tgt := 10) hx hb zd_P_changeFaults_5 (by decide) (fun _ => ?_) (fun c1_ => absurd c1_ (by decide))
  refine lv_aload_n hx hb zd_P_changeFaults_10 rfl (lv_at hl 0 rfl) ?_
  refine va_get (D := (dC, dI)) (ci := 0) (v := .ref af) (C := zR_P) (T := zF_P) (N := 5) hx hb htz zi_P hown hK hP 1 rfl rfl 4 (by decide) (htz _ zq_40) (fun _ h9 => h9) rfl zd_P_changeFaults_11 ?_
  refine lv_iload_n hx hb zd_P_changeFaults_14 rfl (lv_at hl 1 rfl) ?_
  refine z_iald hx hb hK hP 0 0 rfl rfl (j := j) (by omega) (by decide) zd_P_changeFaults_15 ?_
  refine lv_iload_n hx hb zd_P_changeFaults_16 rfl (lv_at hl 2 rfl) ?_
  refine lv_icmp_eq (tgt := 24) hx hb zd_P_changeFaults_17 (by decide) (fun c2_ => ?_) (fun c2_ => ?_)
  · have hc9 := c2_
    refine lv_iconst (v := (nI 0)) hx hb zd_P_changeFaults_24 (by decide) ?_
    refine lv_istore_n (lv' := [(3, .int (nI 0)), (0, .ref hp), (1, .int (nI j)), (2, .int w)]) hx hb zd_P_changeFaults_25 rfl hl (by decide) rfl (fun ls hl => ?_)
    refine lv_aload_n hx hb zd_P_changeFaults_26 rfl (lv_at hl 1 rfl) ?_
    refine va_get (D := (dC, dI)) (ci := 0) (v := .ref af) (C := zR_P) (T := zF_P) (N := 5) hx hb htz zi_P hown hK hP 1 rfl rfl 4 (by decide) (htz _ zq_40) (fun _ h9 => h9) rfl zd_P_changeFaults_27 ?_
    refine lv_iload_n hx hb zd_P_changeFaults_30 rfl (lv_at hl 2 rfl) ?_
    refine lv_iload_n hx hb zd_P_changeFaults_31 rfl (lv_at hl 3 rfl) ?_
    refine z_iast hx hb hK hP hD hS 0 0 rfl rfl (j := j) (by omega) (by decide) zd_P_changeFaults_32 (fun H locs hP hD hS => ?_)
    have hP : va_P (dC, dI) zcl [(af, .inl (cI, 16, .inl (upd fl j w))), (hp, .inr (0, [.int (nI n), .ref aw, .ref av, .ref az, .ref af]))] H := hP
    have hD : va_D A [(af, .inl (cI, 16, .inl (upd fl j w))), (hp, .inr (0, [.int (nI n), .ref aw, .ref av, .ref az, .ref af]))] := hD
    refine lv_iload_n hx hb zd_P_changeFaults_33 rfl (lv_at hl 0 rfl) ?_
    have hP := hP.sub (ws' := [(hp, .inr (0, [.int (nI n), .ref aw, .ref av, .ref az, .ref af])), (af, .inl (cI, 16, .inl (upd fl j w)))]) [1, 0] rfl
    have hD := hD.sub (ws' := [(hp, .inr (0, [.int (nI n), .ref aw, .ref av, .ref az, .ref af])), (af, .inl (cI, 16, .inl (upd fl j w)))]) [1, 0] (by decide) rfl
    exact z_zret hx hb hr hlocks hP hK hD hS zd_P_changeFaults_34 (by decide) (by decide) rfl (Or.inr ⟨rfl, rfl, hc9⟩)
  · have hc9 := c2_
    refine lv_iconst (v := (nI 1)) hx hb zd_P_changeFaults_20 (by decide) ?_
    refine lv_goto (tgt := 25) hx hb zd_P_changeFaults_21 (by decide) ?_
    refine lv_istore_n (lv' := [(3, .int (nI 1)), (0, .ref hp), (1, .int (nI j)), (2, .int w)]) hx hb zd_P_changeFaults_25 rfl hl (by decide) rfl (fun ls hl => ?_)
    refine lv_aload_n hx hb zd_P_changeFaults_26 rfl (lv_at hl 1 rfl) ?_
    refine va_get (D := (dC, dI)) (ci := 0) (v := .ref af) (C := zR_P) (T := zF_P) (N := 5) hx hb htz zi_P hown hK hP 1 rfl rfl 4 (by decide) (htz _ zq_40) (fun _ h9 => h9) rfl zd_P_changeFaults_27 ?_
    refine lv_iload_n hx hb zd_P_changeFaults_30 rfl (lv_at hl 2 rfl) ?_
    refine lv_iload_n hx hb zd_P_changeFaults_31 rfl (lv_at hl 3 rfl) ?_
    refine z_iast hx hb hK hP hD hS 0 0 rfl rfl (j := j) (by omega) (by decide) zd_P_changeFaults_32 (fun H locs hP hD hS => ?_)
    have hP : va_P (dC, dI) zcl [(af, .inl (cI, 16, .inl (upd fl j w))), (hp, .inr (0, [.int (nI n), .ref aw, .ref av, .ref az, .ref af]))] H := hP
    have hD : va_D A [(af, .inl (cI, 16, .inl (upd fl j w))), (hp, .inr (0, [.int (nI n), .ref aw, .ref av, .ref az, .ref af]))] := hD
    refine lv_iload_n hx hb zd_P_changeFaults_33 rfl (lv_at hl 0 rfl) ?_
    have hP := hP.sub (ws' := [(hp, .inr (0, [.int (nI n), .ref aw, .ref av, .ref az, .ref af])), (af, .inl (cI, 16, .inl (upd fl j w)))]) [1, 0] rfl
    have hD := hD.sub (ws' := [(hp, .inr (0, [.int (nI n), .ref aw, .ref av, .ref az, .ref af])), (af, .inl (cI, 16, .inl (upd fl j w)))]) [1, 0] (by decide) rfl
    exact z_zret hx hb hr hlocks hP hK hD hS zd_P_changeFaults_34 (by decide) (by decide) rfl (Or.inl ⟨rfl, rfl, hc9⟩)
