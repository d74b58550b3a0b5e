set_option maxHeartbeats 4000000 in
set_option maxRecDepth 100000 in
/--  -/
theorem k_Race_spendTick_k (l : Launch) (dC : Nat → ClassId) (dI : Nat → Nat → Nat) (cI cJ cZ : ClassId) (ra : Nat) (hp : Nat) (ah : Nat) (am : Nat) (at_ : Nat) (asp : Nat) (afa : Nat) (ado : Nat) (adt : Nat) (aor : Nat) (cr : Nat) (ho : Nat) (nx : Nat) (ba : Nat) (pl : Nat) (tk : Nat) (rr : Int64) (aw : Nat) (av : Nat) (az : Nat) (af : Nat) (n : Nat) (wk : Nat → Int32) (fl : Nat → Int32) (tt : Nat → Int32) (sp : Nat → Int32) (fa : Nat → Int32) (j : Nat) (hn : n ≤ 16) (hj : j < n) (sz : Nat) : zMi l zy_Q_spendTick zw_Q_spendTick ({ frames := 2, cells := 0, slots := 0, locals := 42 }) [.ref ra, .int (nI j)] (dC, dI) zcl [(cI, .int), (cJ, .long), (cZ, .boolean)] [(ra, .inr (1, [.ref hp, .ref ah, .ref am, .ref at_, .ref asp, .ref afa, .ref ado, .ref adt, .ref aor, .int (nI cr), .int (nI ho), .int (nI nx), .int (nI ba), .int (nI pl), .int (nI tk), .long rr])), (hp, .inr (0, [.int (nI n), .ref aw, .ref av, .ref az, .ref af])), (aw, .inl (cI, 16, .inl wk)), (af, .inl (cI, 16, .inl fl)), (at_, .inl (cI, 16, .inl tt)), (asp, .inl (cI, 16, .inl sp)), (afa, .inl (cI, 16, .inl fa))] sz (fun (r : Int32) (u : va_W) => (r = nI 0 ∧ u = [(ra, .inr (1, [.ref hp, .ref ah, .ref am, .ref at_, .ref asp, .ref afa, .ref ado, .ref adt, .ref aor, .int (nI cr), .int (nI ho), .int (nI nx), .int (nI ba), .int (nI pl), .int (nI tk), .long rr])), (hp, .inr (0, [.int (nI n), .ref aw, .ref av, .ref az, .ref af])), (aw, .inl (cI, 16, .inl wk)), (af, .inl (cI, 16, .inl fl)), (at_, .inl (cI, 16, .inl (upd tt j (tt j + 1)))), (asp, .inl (cI, 16, .inl (upd sp j (sp j + 1)))), (afa, .inl (cI, 16, .inl fa))] ∧ tt j + 1 < wk j) ∨ (r = nI 0 ∧ u = [(ra, .inr (1, [.ref hp, .ref ah, .ref am, .ref at_, .ref asp, .ref afa, .ref ado, .ref adt, .ref aor, .int (nI cr), .int (nI ho), .int (nI nx), .int (nI ba), .int (nI pl), .int (nI tk), .long rr])), (hp, .inr (0, [.int (nI n), .ref aw, .ref av, .ref az, .ref af])), (aw, .inl (cI, 16, .inl wk)), (af, .inl (cI, 16, .inl fl)), (at_, .inl (cI, 16, .inl (upd (upd tt j (tt j + 1)) j 0))), (asp, .inl (cI, 16, .inl (upd sp j (sp j + 1)))), (afa, .inl (cI, 16, .inl (upd fa j (fa j + 1))))] ∧ ¬ tt j + 1 < wk j ∧ fa j < fl j) ∨ (r = nI 1 ∧ u = [(ra, .inr (1, [.ref hp, .ref ah, .ref am, .ref at_, .ref asp, .ref afa, .ref ado, .ref adt, .ref aor, .int (nI cr), .int (nI ho), .int (nI nx), .int (nI ba), .int (nI pl), .int (nI tk), .long rr])), (hp, .inr (0, [.int (nI n), .ref aw, .ref av, .ref az, .ref af])), (aw, .inl (cI, 16, .inl wk)), (af, .inl (cI, 16, .inl fl)), (at_, .inl (cI, 16, .inl (upd (upd tt j (tt j + 1)) j 0))), (asp, .inl (cI, 16, .inl (upd sp j (sp j + 1)))), (afa, .inl (cI, 16, .inl fa))] ∧ ¬ tt j + 1 < wk j ∧ ¬ fa j < fl j)) := by
  refine z_ofi (cc := zc_Q_spendTick) (maxL := 2) (ret := (some .boolean)) (by decide) rfl (Nat.le_of_ble_eq_true rfl) ?_
  intro p e s m below meth c A ls hx hb hr hml hown htz hlocks hin hA hP hK hD hS hl
  have hown : s.vm.findClass zR_Q = some m.cls := hown
  have hl : lv_has ls 2 [(0, .ref ra), (1, .int (nI j))] := hl
  refine lv_aload_n hx hb zd_Q_spendTick_0 rfl (lv_at hl 0 rfl) ?_
  refine va_get (D := (dC, dI)) (ci := 1) (v := .ref hp) (C := zR_Q) (T := zF_Q) (N := 16) hx hb htz zi_Q hown hK hP 0 rfl rfl 0 (by decide) (htz _ zq_61) (fun _ h9 => h9) rfl zd_Q_spendTick_1 ?_
  refine lv_iload_n hx hb zd_Q_spendTick_4 rfl (lv_at hl 1 rfl) ?_
  refine z_Vi (As := [.int (nI j)]) (rest := []) (wc := [(hp, .inr (0, [.int (nI n), .ref aw, .ref av, .ref az, .ref af]))]) (wr := [(ra, .inr (1, [.ref hp, .ref ah, .ref am, .ref at_, .ref asp, .ref afa, .ref ado, .ref adt, .ref aor, .int (nI cr), .int (nI ho), .int (nI nx), .int (nI ba), .int (nI pl), .int (nI tk), .long rr])), (aw, .inl (cI, 16, .inl wk)), (af, .inl (cI, 16, .inl fl)), (at_, .inl (cI, 16, .inl tt)), (asp, .inl (cI, 16, .inl sp)), (afa, .inl (cI, 16, .inl fa))]) ⟨hx, hb, hml, hown, htz⟩ hK hP hD hS hA (k_Plan_has_k l dC dI cI cJ cZ hp aw av az af n j (by first | assumption | omega) (by first | assumption | omega) s.heap.size) (zcwV 1 htz zq_147 zq_304 zq_145 zq_146 zq_2 (by decide +kernel) ⟨Nat.le_of_ble_eq_true rfl, Nat.le_of_ble_eq_true rfl⟩) 1 0 rfl rfl [1] [0, 2, 3, 4, 5, 6] rfl rfl rfl (by decide) rfl hl.1 rfl (Nat.le_of_ble_eq_true rfl) zd_Q_spendTick_5 ⟨Nat.le_of_ble_eq_true rfl, Nat.le_of_ble_eq_true rfl⟩ (fun r u H locs hw hP hD hS => ?_)
  obtain ⟨rfl, rfl⟩ := hw
  have hP : va_P (dC, dI) zcl [(ra, .inr (1, [.ref hp, .ref ah, .ref am, .ref at_, .ref asp, .ref afa, .ref ado, .ref adt, .ref aor, .int (nI cr), .int (nI ho), .int (nI nx), .int (nI ba), .int (nI pl), .int (nI tk), .long rr])), (aw, .inl (cI, 16, .inl wk)), (af, .inl (cI, 16, .inl fl)), (at_, .inl (cI, 16, .inl tt)), (asp, .inl (cI, 16, .inl sp)), (afa, .inl (cI, 16, .inl fa)), (hp, .inr (0, [.int (nI n), .ref aw, .ref av, .ref az, .ref af]))] H := hP
  have hD : va_D A [(ra, .inr (1, [.ref hp, .ref ah, .ref am, .ref at_, .ref asp, .ref afa, .ref ado, .ref adt, .ref aor, .int (nI cr), .int (nI ho), .int (nI nx), .int (nI ba), .int (nI pl), .int (nI tk), .long rr])), (aw, .inl (cI, 16, .inl wk)), (af, .inl (cI, 16, .inl fl)), (at_, .inl (cI, 16, .inl tt)), (asp, .inl (cI, 16, .inl sp)), (afa, .inl (cI, 16, .inl fa)), (hp, .inr (0, [.int (nI n), .ref aw, .ref av, .ref az, .ref af]))] := hD
  refine lv_if_ne (tgt := 13) hx hb zd_Q_spendTick_8 (by decide) (fun _ => ?_) (fun c1_ => absurd c1_ (by decide))
  refine lv_aload_n hx hb zd_Q_spendTick_13 rfl (lv_at hl 0 rfl) ?_
  refine va_get (D := (dC, dI)) (ci := 1) (v := .ref asp) (C := zR_Q) (T := zF_Q) (N := 16) hx hb htz zi_Q hown hK hP 0 rfl rfl 4 (by decide) (htz _ zq_65) (fun _ h9 => h9) rfl zd_Q_spendTick_14 ?_
  refine lv_iload_n hx hb zd_Q_spendTick_17 rfl (lv_at hl 1 rfl) ?_
  refine lv_dup2_11 hx hb zd_Q_spendTick_18 rfl rfl ?_
  refine z_iald hx hb hK hP 4 0 rfl rfl (j := j) (by omega) (by decide) zd_Q_spendTick_19 ?_
  refine lv_iconst (v := (nI 1)) hx hb zd_Q_spendTick_20 (by decide) ?_
  refine lv_iadd hx hb zd_Q_spendTick_21 ?_
  refine z_topi (y := ((sp j) + 1)) rfl ?_
  refine z_iast hx hb hK hP hD hS 4 0 rfl rfl (j := j) (by omega) (by decide) zd_Q_spendTick_22 (fun H locs hP hD hS => ?_)
  have hP : va_P (dC, dI) zcl [(ra, .inr (1, [.ref hp, .ref ah, .ref am, .ref at_, .ref asp, .ref afa, .ref ado, .ref adt, .ref aor, .int (nI cr), .int (nI ho), .int (nI nx), .int (nI ba), .int (nI pl), .int (nI tk), .long rr])), (aw, .inl (cI, 16, .inl wk)), (af, .inl (cI, 16, .inl fl)), (at_, .inl (cI, 16, .inl tt)), (asp, .inl (cI, 16, .inl (upd sp j ((sp j) + 1)))), (afa, .inl (cI, 16, .inl fa)), (hp, .inr (0, [.int (nI n), .ref aw, .ref av, .ref az, .ref af]))] H := hP
  have hD : va_D A [(ra, .inr (1, [.ref hp, .ref ah, .ref am, .ref at_, .ref asp, .ref afa, .ref ado, .ref adt, .ref aor, .int (nI cr), .int (nI ho), .int (nI nx), .int (nI ba), .int (nI pl), .int (nI tk), .long rr])), (aw, .inl (cI, 16, .inl wk)), (af, .inl (cI, 16, .inl fl)), (at_, .inl (cI, 16, .inl tt)), (asp, .inl (cI, 16, .inl (upd sp j ((sp j) + 1)))), (afa, .inl (cI, 16, .inl fa)), (hp, .inr (0, [.int (nI n), .ref aw, .ref av, .ref az, .ref af]))] := hD
  refine lv_aload_n hx hb zd_Q_spendTick_23 rfl (lv_at hl 0 rfl) ?_
  refine va_get (D := (dC, dI)) (ci := 1) (v := .ref at_) (C := zR_Q) (T := zF_Q) (N := 16) hx hb htz zi_Q hown hK hP 0 rfl rfl 3 (by decide) (htz _ zq_64) (fun _ h9 => h9) rfl zd_Q_spendTick_24 ?_
  refine lv_iload_n hx hb zd_Q_spendTick_27 rfl (lv_at hl 1 rfl) ?_
  refine lv_dup2_11 hx hb zd_Q_spendTick_28 rfl rfl ?_
  refine z_iald hx hb hK hP 3 0 rfl rfl (j := j) (by omega) (by decide) zd_Q_spendTick_29 ?_
  refine lv_iconst (v := (nI 1)) hx hb zd_Q_spendTick_30 (by decide) ?_
  refine lv_iadd hx hb zd_Q_spendTick_31 ?_
  refine z_topi (y := ((tt j) + 1)) rfl ?_
  refine z_iast hx hb hK hP hD hS 3 0 rfl rfl (j := j) (by omega) (by decide) zd_Q_spendTick_32 (fun H locs hP hD hS => ?_)
  have hP : va_P (dC, dI) zcl [(ra, .inr (1, [.ref hp, .ref ah, .ref am, .ref at_, .ref asp, .ref afa, .ref ado, .ref adt, .ref aor, .int (nI cr), .int (nI ho), .int (nI nx), .int (nI ba), .int (nI pl), .int (nI tk), .long rr])), (aw, .inl (cI, 16, .inl wk)), (af, .inl (cI, 16, .inl fl)), (at_, .inl (cI, 16, .inl (upd tt j ((tt j) + 1)))), (asp, .inl (cI, 16, .inl (upd sp j ((sp j) + 1)))), (afa, .inl (cI, 16, .inl fa)), (hp, .inr (0, [.int (nI n), .ref aw, .ref av, .ref az, .ref af]))] H := hP
  have hD : va_D A [(ra, .inr (1, [.ref hp, .ref ah, .ref am, .ref at_, .ref asp, .ref afa, .ref ado, .ref adt, .ref aor, .int (nI cr), .int (nI ho), .int (nI nx), .int (nI ba), .int (nI pl), .int (nI tk), .long rr])), (aw, .inl (cI, 16, .inl wk)), (af, .inl (cI, 16, .inl fl)), (at_, .inl (cI, 16, .inl (upd tt j ((tt j) + 1)))), (asp, .inl (cI, 16, .inl (upd sp j ((sp j) + 1)))), (afa, .inl (cI, 16, .inl fa)), (hp, .inr (0, [.int (nI n), .ref aw, .ref av, .ref az, .ref af]))] := hD
  refine lv_aload_n hx hb zd_Q_spendTick_33 rfl (lv_at hl 0 rfl) ?_
  refine va_get (D := (dC, dI)) (ci := 1) (v := .ref at_) (C := zR_Q) (T := zF_Q) (N := 16) hx hb htz zi_Q hown hK hP 0 rfl rfl 3 (by decide) (htz _ zq_64) (fun _ h9 => h9) rfl zd_Q_spendTick_34 ?_
  refine lv_iload_n hx hb zd_Q_spendTick_37 rfl (lv_at hl 1 rfl) ?_
  refine z_iald hx hb hK hP 3 0 rfl rfl (j := j) (by omega) (by decide) zd_Q_spendTick_38 ?_
  refine z_topi (y := ((tt j) + 1)) pk_us ?_
  refine lv_aload_n hx hb zd_Q_spendTick_39 rfl (lv_at hl 0 rfl) ?_
  refine va_get (D := (dC, dI)) (ci := 1) (v := .ref hp) (C := zR_Q) (T := zF_Q) (N := 16) hx hb htz zi_Q hown hK hP 0 rfl rfl 0 (by decide) (htz _ zq_61) (fun _ h9 => h9) rfl zd_Q_spendTick_40 ?_
  refine lv_iload_n hx hb zd_Q_spendTick_43 rfl (lv_at hl 1 rfl) ?_
  refine z_Vi (As := [.int (nI j)]) (rest := [.int ((tt j) + 1)]) (wc := [(hp, .inr (0, [.int (nI n), .ref aw, .ref av, .ref az, .ref af])), (aw, .inl (cI, 16, .inl wk))]) (wr := [(ra, .inr (1, [.ref hp, .ref ah, .ref am, .ref at_, .ref asp, .ref afa, .ref ado, .ref adt, .ref aor, .int (nI cr), .int (nI ho), .int (nI nx), .int (nI ba), .int (nI pl), .int (nI tk), .long rr])), (af, .inl (cI, 16, .inl fl)), (at_, .inl (cI, 16, .inl (upd tt j ((tt j) + 1)))), (asp, .inl (cI, 16, .inl (upd sp j ((sp j) + 1)))), (afa, .inl (cI, 16, .inl fa))]) ⟨hx, hb, hml, hown, htz⟩ hK hP hD hS hA (k_Plan_workOf_k l dC dI cI cJ cZ hp aw av az af n wk j (by first | assumption | omega) (by first | assumption | omega) H.size) (zcwV 1 htz zq_308 zq_305 zq_306 zq_307 zq_2 (by decide +kernel) ⟨Nat.le_of_ble_eq_true rfl, Nat.le_of_ble_eq_true rfl⟩) 6 0 rfl rfl [6, 1] [0, 2, 3, 4, 5] rfl rfl rfl (by decide) rfl hl.1 rfl (Nat.le_of_ble_eq_true rfl) zd_Q_spendTick_44 ⟨Nat.le_of_ble_eq_true rfl, Nat.le_of_ble_eq_true rfl⟩ (fun r u H locs hw hP hD hS => ?_)
  obtain ⟨rfl, rfl⟩ := hw
  have hP : va_P (dC, dI) zcl [(ra, .inr (1, [.ref hp, .ref ah, .ref am, .ref at_, .ref asp, .ref afa, .ref ado, .ref adt, .ref aor, .int (nI cr), .int (nI ho), .int (nI nx), .int (nI ba), .int (nI pl), .int (nI tk), .long rr])), (af, .inl (cI, 16, .inl fl)), (at_, .inl (cI, 16, .inl (upd tt j ((tt j) + 1)))), (asp, .inl (cI, 16, .inl (upd sp j ((sp j) + 1)))), (afa, .inl (cI, 16, .inl fa)), (hp, .inr (0, [.int (nI n), .ref aw, .ref av, .ref az, .ref af])), (aw, .inl (cI, 16, .inl wk))] H := hP
  have hD : va_D A [(ra, .inr (1, [.ref hp, .ref ah, .ref am, .ref at_, .ref asp, .ref afa, .ref ado, .ref adt, .ref aor, .int (nI cr), .int (nI ho), .int (nI nx), .int (nI ba), .int (nI pl), .int (nI tk), .long rr])), (af, .inl (cI, 16, .inl fl)), (at_, .inl (cI, 16, .inl (upd tt j ((tt j) + 1)))), (asp, .inl (cI, 16, .inl (upd sp j ((sp j) + 1)))), (afa, .inl (cI, 16, .inl fa)), (hp, .inr (0, [.int (nI n), .ref aw, .ref av, .ref az, .ref af])), (aw, .inl (cI, 16, .inl wk))] := hD
  refine lv_icmp_ge (tgt := 52) hx hb zd_Q_spendTick_47 (by decide) (fun c2_ => ?_) (fun c2_ => ?_)
  · have ha9 := z_nlt c2_
    refine lv_aload_n hx hb zd_Q_spendTick_52 rfl (lv_at hl 0 rfl) ?_
    refine va_get (D := (dC, dI)) (ci := 1) (v := .ref at_) (C := zR_Q) (T := zF_Q) (N := 16) hx hb htz zi_Q hown hK hP 0 rfl rfl 3 (by decide) (htz _ zq_64) (fun _ h9 => h9) rfl zd_Q_spendTick_53 ?_
    refine lv_iload_n hx hb zd_Q_spendTick_56 rfl (lv_at hl 1 rfl) ?_
    refine lv_iconst (v := (nI 0)) hx hb zd_Q_spendTick_57 (by decide) ?_
    refine z_iast hx hb hK hP hD hS 2 0 rfl rfl (j := j) (by omega) (by decide) zd_Q_spendTick_58 (fun H locs hP hD hS => ?_)
    have hP : va_P (dC, dI) zcl [(ra, .inr (1, [.ref hp, .ref ah, .ref am, .ref at_, .ref asp, .ref afa, .ref ado, .ref adt, .ref aor, .int (nI cr), .int (nI ho), .int (nI nx), .int (nI ba), .int (nI pl), .int (nI tk), .long rr])), (af, .inl (cI, 16, .inl fl)), (at_, .inl (cI, 16, .inl (upd (upd tt j ((tt j) + 1)) j (nI 0)))), (asp, .inl (cI, 16, .inl (upd sp j ((sp j) + 1)))), (afa, .inl (cI, 16, .inl fa)), (hp, .inr (0, [.int (nI n), .ref aw, .ref av, .ref az, .ref af])), (aw, .inl (cI, 16, .inl wk))] H := hP
    have hD : va_D A [(ra, .inr (1, [.ref hp, .ref ah, .ref am, .ref at_, .ref asp, .ref afa, .ref ado, .ref adt, .ref aor, .int (nI cr), .int (nI ho), .int (nI nx), .int (nI ba), .int (nI pl), .int (nI tk), .long rr])), (af, .inl (cI, 16, .inl fl)), (at_, .inl (cI, 16, .inl (upd (upd tt j ((tt j) + 1)) j (nI 0)))), (asp, .inl (cI, 16, .inl (upd sp j ((sp j) + 1)))), (afa, .inl (cI, 16, .inl fa)), (hp, .inr (0, [.int (nI n), .ref aw, .ref av, .ref az, .ref af])), (aw, .inl (cI, 16, .inl wk))] := hD
    refine lv_aload_n hx hb zd_Q_spendTick_59 rfl (lv_at hl 0 rfl) ?_
    refine va_get (D := (dC, dI)) (ci := 1) (v := .ref afa) (C := zR_Q) (T := zF_Q) (N := 16) hx hb htz zi_Q hown hK hP 0 rfl rfl 5 (by decide) (htz _ zq_66) (fun _ h9 => h9) rfl zd_Q_spendTick_60 ?_
    refine lv_iload_n hx hb zd_Q_spendTick_63 rfl (lv_at hl 1 rfl) ?_
    refine z_iald hx hb hK hP 4 0 rfl rfl (j := j) (by omega) (by decide) zd_Q_spendTick_64 ?_
    refine lv_aload_n hx hb zd_Q_spendTick_65 rfl (lv_at hl 0 rfl) ?_
    refine va_get (D := (dC, dI)) (ci := 1) (v := .ref hp) (C := zR_Q) (T := zF_Q) (N := 16) hx hb htz zi_Q hown hK hP 0 rfl rfl 0 (by decide) (htz _ zq_61) (fun _ h9 => h9) rfl zd_Q_spendTick_66 ?_
    refine lv_iload_n hx hb zd_Q_spendTick_69 rfl (lv_at hl 1 rfl) ?_
    refine z_Vi (As := [.int (nI j)]) (rest := [.int (fa j)]) (wc := [(hp, .inr (0, [.int (nI n), .ref aw, .ref av, .ref az, .ref af])), (af, .inl (cI, 16, .inl fl))]) (wr := [(ra, .inr (1, [.ref hp, .ref ah, .ref am, .ref at_, .ref asp, .ref afa, .ref ado, .ref adt, .ref aor, .int (nI cr), .int (nI ho), .int (nI nx), .int (nI ba), .int (nI pl), .int (nI tk), .long rr])), (at_, .inl (cI, 16, .inl (upd (upd tt j ((tt j) + 1)) j (nI 0)))), (asp, .inl (cI, 16, .inl (upd sp j ((sp j) + 1)))), (afa, .inl (cI, 16, .inl fa)), (aw, .inl (cI, 16, .inl wk))]) ⟨hx, hb, hml, hown, htz⟩ hK hP hD hS hA (k_Plan_faultsOf_k l dC dI cI cJ cZ hp aw av az af n fl j (by first | assumption | omega) (by first | assumption | omega) H.size) (zcwV 1 htz zq_312 zq_309 zq_310 zq_311 zq_2 (by decide +kernel) ⟨Nat.le_of_ble_eq_true rfl, Nat.le_of_ble_eq_true rfl⟩) 5 0 rfl rfl [5, 1] [0, 2, 3, 4, 6] rfl rfl rfl (by decide) rfl hl.1 rfl (Nat.le_of_ble_eq_true rfl) zd_Q_spendTick_70 ⟨Nat.le_of_ble_eq_true rfl, Nat.le_of_ble_eq_true rfl⟩ (fun r u H locs hw hP hD hS => ?_)
    obtain ⟨rfl, rfl⟩ := hw
    have hP : va_P (dC, dI) zcl [(ra, .inr (1, [.ref hp, .ref ah, .ref am, .ref at_, .ref asp, .ref afa, .ref ado, .ref adt, .ref aor, .int (nI cr), .int (nI ho), .int (nI nx), .int (nI ba), .int (nI pl), .int (nI tk), .long rr])), (at_, .inl (cI, 16, .inl (upd (upd tt j ((tt j) + 1)) j (nI 0)))), (asp, .inl (cI, 16, .inl (upd sp j ((sp j) + 1)))), (afa, .inl (cI, 16, .inl fa)), (aw, .inl (cI, 16, .inl wk)), (hp, .inr (0, [.int (nI n), .ref aw, .ref av, .ref az, .ref af])), (af, .inl (cI, 16, .inl fl))] H := hP
    have hD : va_D A [(ra, .inr (1, [.ref hp, .ref ah, .ref am, .ref at_, .ref asp, .ref afa, .ref ado, .ref adt, .ref aor, .int (nI cr), .int (nI ho), .int (nI nx), .int (nI ba), .int (nI pl), .int (nI tk), .long rr])), (at_, .inl (cI, 16, .inl (upd (upd tt j ((tt j) + 1)) j (nI 0)))), (asp, .inl (cI, 16, .inl (upd sp j ((sp j) + 1)))), (afa, .inl (cI, 16, .inl fa)), (aw, .inl (cI, 16, .inl wk)), (hp, .inr (0, [.int (nI n), .ref aw, .ref av, .ref az, .ref af])), (af, .inl (cI, 16, .inl fl))] := hD
    refine lv_icmp_ge (tgt := 88) hx hb zd_Q_spendTick_73 (by decide) (fun c3_ => ?_) (fun c3_ => ?_)
    · have hb9 := z_nlt c3_
      refine lv_iconst (v := (nI 1)) hx hb zd_Q_spendTick_88 (by decide) ?_
      have hP := hP.sub (ws' := [(ra, .inr (1, [.ref hp, .ref ah, .ref am, .ref at_, .ref asp, .ref afa, .ref ado, .ref adt, .ref aor, .int (nI cr), .int (nI ho), .int (nI nx), .int (nI ba), .int (nI pl), .int (nI tk), .long rr])), (hp, .inr (0, [.int (nI n), .ref aw, .ref av, .ref az, .ref af])), (aw, .inl (cI, 16, .inl wk)), (af, .inl (cI, 16, .inl fl)), (at_, .inl (cI, 16, .inl (upd (upd tt j ((tt j) + 1)) j (nI 0)))), (asp, .inl (cI, 16, .inl (upd sp j ((sp j) + 1)))), (afa, .inl (cI, 16, .inl fa))]) [0, 5, 4, 6, 1, 2, 3] rfl
      have hD := hD.sub (ws' := [(ra, .inr (1, [.ref hp, .ref ah, .ref am, .ref at_, .ref asp, .ref afa, .ref ado, .ref adt, .ref aor, .int (nI cr), .int (nI ho), .int (nI nx), .int (nI ba), .int (nI pl), .int (nI tk), .long rr])), (hp, .inr (0, [.int (nI n), .ref aw, .ref av, .ref az, .ref af])), (aw, .inl (cI, 16, .inl wk)), (af, .inl (cI, 16, .inl fl)), (at_, .inl (cI, 16, .inl (upd (upd tt j ((tt j) + 1)) j (nI 0)))), (asp, .inl (cI, 16, .inl (upd sp j ((sp j) + 1)))), (afa, .inl (cI, 16, .inl fa))]) [0, 5, 4, 6, 1, 2, 3] (by decide) rfl
      exact z_zret hx hb hr hlocks hP hK hD hS zd_Q_spendTick_89 (by decide) (by decide) rfl (Or.inr (Or.inr ⟨rfl, rfl, ha9, hb9⟩))
    · have hb9 := z_nle c3_
      refine lv_aload_n hx hb zd_Q_spendTick_76 rfl (lv_at hl 0 rfl) ?_
      refine va_get (D := (dC, dI)) (ci := 1) (v := .ref afa) (C := zR_Q) (T := zF_Q) (N := 16) hx hb htz zi_Q hown hK hP 0 rfl rfl 5 (by decide) (htz _ zq_66) (fun _ h9 => h9) rfl zd_Q_spendTick_77 ?_
      refine lv_iload_n hx hb zd_Q_spendTick_80 rfl (lv_at hl 1 rfl) ?_
      refine lv_dup2_11 hx hb zd_Q_spendTick_81 rfl rfl ?_
      refine z_iald hx hb hK hP 3 0 rfl rfl (j := j) (by omega) (by decide) zd_Q_spendTick_82 ?_
      refine lv_iconst (v := (nI 1)) hx hb zd_Q_spendTick_83 (by decide) ?_
      refine lv_iadd hx hb zd_Q_spendTick_84 ?_
      refine z_topi (y := ((fa j) + 1)) rfl ?_
      refine z_iast hx hb hK hP hD hS 3 0 rfl rfl (j := j) (by omega) (by decide) zd_Q_spendTick_85 (fun H locs hP hD hS => ?_)
      have hP : va_P (dC, dI) zcl [(ra, .inr (1, [.ref hp, .ref ah, .ref am, .ref at_, .ref asp, .ref afa, .ref ado, .ref adt, .ref aor, .int (nI cr), .int (nI ho), .int (nI nx), .int (nI ba), .int (nI pl), .int (nI tk), .long rr])), (at_, .inl (cI, 16, .inl (upd (upd tt j ((tt j) + 1)) j (nI 0)))), (asp, .inl (cI, 16, .inl (upd sp j ((sp j) + 1)))), (afa, .inl (cI, 16, .inl (upd fa j ((fa j) + 1)))), (aw, .inl (cI, 16, .inl wk)), (hp, .inr (0, [.int (nI n), .ref aw, .ref av, .ref az, .ref af])), (af, .inl (cI, 16, .inl fl))] H := hP
      have hD : va_D A [(ra, .inr (1, [.ref hp, .ref ah, .ref am, .ref at_, .ref asp, .ref afa, .ref ado, .ref adt, .ref aor, .int (nI cr), .int (nI ho), .int (nI nx), .int (nI ba), .int (nI pl), .int (nI tk), .long rr])), (at_, .inl (cI, 16, .inl (upd (upd tt j ((tt j) + 1)) j (nI 0)))), (asp, .inl (cI, 16, .inl (upd sp j ((sp j) + 1)))), (afa, .inl (cI, 16, .inl (upd fa j ((fa j) + 1)))), (aw, .inl (cI, 16, .inl wk)), (hp, .inr (0, [.int (nI n), .ref aw, .ref av, .ref az, .ref af])), (af, .inl (cI, 16, .inl fl))] := hD
      refine lv_iconst (v := (nI 0)) hx hb zd_Q_spendTick_86 (by decide) ?_
      have hP := hP.sub (ws' := [(ra, .inr (1, [.ref hp, .ref ah, .ref am, .ref at_, .ref asp, .ref afa, .ref ado, .ref adt, .ref aor, .int (nI cr), .int (nI ho), .int (nI nx), .int (nI ba), .int (nI pl), .int (nI tk), .long rr])), (hp, .inr (0, [.int (nI n), .ref aw, .ref av, .ref az, .ref af])), (aw, .inl (cI, 16, .inl wk)), (af, .inl (cI, 16, .inl fl)), (at_, .inl (cI, 16, .inl (upd (upd tt j ((tt j) + 1)) j (nI 0)))), (asp, .inl (cI, 16, .inl (upd sp j ((sp j) + 1)))), (afa, .inl (cI, 16, .inl (upd fa j ((fa j) + 1))))]) [0, 5, 4, 6, 1, 2, 3] rfl
      have hD := hD.sub (ws' := [(ra, .inr (1, [.ref hp, .ref ah, .ref am, .ref at_, .ref asp, .ref afa, .ref ado, .ref adt, .ref aor, .int (nI cr), .int (nI ho), .int (nI nx), .int (nI ba), .int (nI pl), .int (nI tk), .long rr])), (hp, .inr (0, [.int (nI n), .ref aw, .ref av, .ref az, .ref af])), (aw, .inl (cI, 16, .inl wk)), (af, .inl (cI, 16, .inl fl)), (at_, .inl (cI, 16, .inl (upd (upd tt j ((tt j) + 1)) j (nI 0)))), (asp, .inl (cI, 16, .inl (upd sp j ((sp j) + 1)))), (afa, .inl (cI, 16, .inl (upd fa j ((fa j) + 1))))]) [0, 5, 4, 6, 1, 2, 3] (by decide) rfl
      exact z_zret hx hb hr hlocks hP hK hD hS zd_Q_spendTick_87 (by decide) (by decide) rfl (Or.inr (Or.inl ⟨rfl, rfl, ha9, hb9⟩))
  · have ha9 := z_nle c2_
    refine lv_iconst (v := (nI 0)) hx hb zd_Q_spendTick_50 (by decide) ?_
    have hP := hP.sub (ws' := [(ra, .inr (1, [.ref hp, .ref ah, .ref am, .ref at_, .ref asp, .ref afa, .ref ado, .ref adt, .ref aor, .int (nI cr), .int (nI ho), .int (nI nx), .int (nI ba), .int (nI pl), .int (nI tk), .long rr])), (hp, .inr (0, [.int (nI n), .ref aw, .ref av, .ref az, .ref af])), (aw, .inl (cI, 16, .inl wk)), (af, .inl (cI, 16, .inl fl)), (at_, .inl (cI, 16, .inl (upd tt j ((tt j) + 1)))), (asp, .inl (cI, 16, .inl (upd sp j ((sp j) + 1)))), (afa, .inl (cI, 16, .inl fa))]) [0, 5, 6, 1, 2, 3, 4] rfl
    have hD := hD.sub (ws' := [(ra, .inr (1, [.ref hp, .ref ah, .ref am, .ref at_, .ref asp, .ref afa, .ref ado, .ref adt, .ref aor, .int (nI cr), .int (nI ho), .int (nI nx), .int (nI ba), .int (nI pl), .int (nI tk), .long rr])), (hp, .inr (0, [.int (nI n), .ref aw, .ref av, .ref az, .ref af])), (aw, .inl (cI, 16, .inl wk)), (af, .inl (cI, 16, .inl fl)), (at_, .inl (cI, 16, .inl (upd tt j ((tt j) + 1)))), (asp, .inl (cI, 16, .inl (upd sp j ((sp j) + 1)))), (afa, .inl (cI, 16, .inl fa))]) [0, 5, 6, 1, 2, 3, 4] (by decide) rfl
    exact z_zret hx hb hr hlocks hP hK hD hS zd_Q_spendTick_51 (by decide) (by decide) rfl (Or.inl ⟨rfl, rfl, ha9⟩)
set_option maxHeartbeats 4000000 in
set_option maxRecDepth 100000 in
/--  -/
theorem k_Race_moverBehind_k (l : Launch) (dC : Nat → ClassId) (dI : Nat → Nat → Nat) (cI cJ cZ : ClassId) (ra : Nat) (hp : Nat) (ah : Nat) (am : Nat) (at_ : Nat) (asp : Nat) (afa : Nat) (ado : Nat) (adt : Nat) (aor : Nat) (cr : Nat) (ho : Nat) (nx : Nat) (ba : Nat) (pl : Nat) (tk : Nat) (rr : Int64) (hd : Nat → Int32) (q : Nat) (hc : cr ≤ 16) (hnx : nx ≤ 16) (hba : ba ≤ 16) (hq : ba ≤ nx → q < zcnt hd cr) (sz : Nat) : zMi l zy_Q_moverBehind zw_Q_moverBehind ({ frames := 1, cells := 0, slots := 0, locals := 20 }) [.ref ra, .int (nI q)] (dC, dI) zcl [(cI, .int), (cJ, .long), (cZ, .boolean)] [(ra, .inr (1, [.ref hp, .ref ah, .ref am, .ref at_, .ref asp, .ref afa, .ref ado, .ref adt, .ref aor, .int (nI cr), .int (nI ho), .int (nI nx), .int (nI ba), .int (nI pl), .int (nI tk), .long rr])), (ah, .inl (cI, 16, .inl hd))] sz (fun (r : Int32) (u : va_W) => r = nI (zbh hd cr nx ba q) ∧ u = [(ra, .inr (1, [.ref hp, .ref ah, .ref am, .ref at_, .ref asp, .ref afa, .ref ado, .ref adt, .ref aor, .int (nI cr), .int (nI ho), .int (nI nx), .int (nI ba), .int (nI pl), .int (nI tk), .long rr])), (ah, .inl (cI, 16, .inl hd))]) := by
  refine z_ofi (cc := zc_Q_moverBehind) (maxL := 4) (ret := (some .int)) (by decide) rfl (Nat.le_of_ble_eq_true rfl) ?_
  intro p e s m below meth c A ls hx hb hr hml hown htz hlocks hin hA hP hK hD hS hl
  have hown : s.vm.findClass zR_Q = some m.cls := hown
  have hl : lv_has ls 4 [(0, .ref ra), (1, .int (nI q))] := hl
  refine lv_aload_n hx hb zd_Q_moverBehind_0 rfl (lv_at hl 0 rfl) ?_
  refine z_Vi (As := []) (rest := []) (wc := [(ra, .inr (1, [.ref hp, .ref ah, .ref am, .ref at_, .ref asp, .ref afa, .ref ado, .ref adt, .ref aor, .int (nI cr), .int (nI ho), .int (nI nx), .int (nI ba), .int (nI pl), .int (nI tk), .long rr]))]) (wr := [(ah, .inl (cI, 16, .inl hd))]) ⟨hx, hb, hml, hown, htz⟩ hK hP hD hS hA (k_Race_someShareWaits l dC dI cI cJ cZ ra hp ah am at_ asp afa ado adt aor cr ho nx ba pl tk rr (by first | assumption | omega) (by first | assumption | omega) s.heap.size) (zcwV 0 htz zq_281 zq_278 zq_280 zp_4 zq_5 (by decide +kernel) ⟨Nat.le_of_ble_eq_true rfl, Nat.le_of_ble_eq_true rfl⟩) 0 1 rfl rfl [0] [1] rfl rfl rfl (by decide) rfl hl.1 rfl (Nat.le_of_ble_eq_true rfl) zd_Q_moverBehind_1 ⟨Nat.le_of_ble_eq_true rfl, Nat.le_of_ble_eq_true rfl⟩ (fun r u H locs hw hP hD hS => ?_)
  rcases hw with ⟨rfl, rfl, hw1_⟩ | ⟨rfl, rfl, hw2_⟩
  · have hP : va_P (dC, dI) zcl [(ah, .inl (cI, 16, .inl hd)), (ra, .inr (1, [.ref hp, .ref ah, .ref am, .ref at_, .ref asp, .ref afa, .ref ado, .ref adt, .ref aor, .int (nI cr), .int (nI ho), .int (nI nx), .int (nI ba), .int (nI pl), .int (nI tk), .long rr]))] H := hP
    have hD : va_D A [(ah, .inl (cI, 16, .inl hd)), (ra, .inr (1, [.ref hp, .ref ah, .ref am, .ref at_, .ref asp, .ref afa, .ref ado, .ref adt, .ref aor, .int (nI cr), .int (nI ho), .int (nI nx), .int (nI ba), .int (nI pl), .int (nI tk), .long rr]))] := hD
    have hw9 := hw1_
    refine lv_if_eq (tgt := 9) hx hb zd_Q_moverBehind_4 (by decide) (fun c3_ => absurd c3_ (by decide)) (fun _ => ?_)
    refine lv_iload_n hx hb zd_Q_moverBehind_7 rfl (lv_at hl 1 rfl) ?_
    have hP := hP.sub (ws' := [(ra, .inr (1, [.ref hp, .ref ah, .ref am, .ref at_, .ref asp, .ref afa, .ref ado, .ref adt, .ref aor, .int (nI cr), .int (nI ho), .int (nI nx), .int (nI ba), .int (nI pl), .int (nI tk), .long rr])), (ah, .inl (cI, 16, .inl hd))]) [1, 0] rfl
    have hD := hD.sub (ws' := [(ra, .inr (1, [.ref hp, .ref ah, .ref am, .ref at_, .ref asp, .ref afa, .ref ado, .ref adt, .ref aor, .int (nI cr), .int (nI ho), .int (nI nx), .int (nI ba), .int (nI pl), .int (nI tk), .long rr])), (ah, .inl (cI, 16, .inl hd))]) [1, 0] (by decide) rfl
    exact z_iret hx hb hr hlocks hP hK hD hS zd_Q_moverBehind_8 (by decide) (by decide) ⟨by rw [zbh, if_pos hw9], rfl⟩
  · have hP : va_P (dC, dI) zcl [(ah, .inl (cI, 16, .inl hd)), (ra, .inr (1, [.ref hp, .ref ah, .ref am, .ref at_, .ref asp, .ref afa, .ref ado, .ref adt, .ref aor, .int (nI cr), .int (nI ho), .int (nI nx), .int (nI ba), .int (nI pl), .int (nI tk), .long rr]))] H := hP
    have hD : va_D A [(ah, .inl (cI, 16, .inl hd)), (ra, .inr (1, [.ref hp, .ref ah, .ref am, .ref at_, .ref asp, .ref afa, .ref ado, .ref adt, .ref aor, .int (nI cr), .int (nI ho), .int (nI nx), .int (nI ba), .int (nI pl), .int (nI tk), .long rr]))] := hD
    have hw9 := hw2_
    refine lv_if_eq (tgt := 9) hx hb zd_Q_moverBehind_4 (by decide) (fun _ => ?_) (fun c4_ => absurd (by decide) c4_)
    refine lv_iload_n hx hb zd_Q_moverBehind_9 rfl (lv_at hl 1 rfl) ?_
    refine lv_istore_n (lv' := [(2, .int (nI q)), (0, .ref ra), (1, .int (nI q))]) hx hb zd_Q_moverBehind_10 rfl hl (by decide) rfl (fun ls hl => ?_)
    refine lv_iconst (v := (nI 0)) hx hb zd_Q_moverBehind_11 (by decide) ?_
    refine lv_istore_n (lv' := [(3, .int (nI 0)), (2, .int (nI q)), (0, .ref ra), (1, .int (nI q))]) hx hb zd_Q_moverBehind_12 rfl hl (by decide) rfl (fun ls hl => ?_)
    have lp13 : ∀ (fuel : Nat) (k : Nat) (lf : Nat) (H : Heap) (locs : List Loc) (ls : Array Slot), (k ≤ cr) → (lf + zcnt hd k = q) → cr - k < fuel → va_P (dC, dI) zcl [(ah, .inl (cI, 16, .inl hd)), (ra, .inr (1, [.ref hp, .ref ah, .ref am, .ref at_, .ref asp, .ref afa, .ref ado, .ref adt, .ref aor, .int (nI cr), .int (nI ho), .int (nI nx), .int (nI ba), .int (nI pl), .int (nI tk), .long rr]))] H → va_D A [(ah, .inl (cI, 16, .inl hd)), (ra, .inr (1, [.ref hp, .ref ah, .ref am, .ref at_, .ref asp, .ref afa, .ref ado, .ref adt, .ref aor, .int (nI cr), .int (nI ho), .int (nI nx), .int (nI ba), .int (nI pl), .int (nI tk), .long rr]))] → va_S A s.heap H locs → lv_has ls 4 [(3, .int (nI k)), (2, .int (nI lf)), (0, .ref ra), (1, .int (nI q))] → W p l e ({ frames := 1, cells := 0, slots := 0, locals := 20 } : Room) s m [.ref ra, .int (nI q)].toArray below meth c H locs 0 0 (MQ below (va_Qi (fun (r : Int32) (u : va_W) => r = nI (zbh hd cr nx ba q) ∧ u = [(ra, .inr (1, [.ref hp, .ref ah, .ref am, .ref at_, .ref asp, .ref afa, .ref ado, .ref adt, .ref aor, .int (nI cr), .int (nI ho), .int (nI nx), .int (nI ba), .int (nI pl), .int (nI tk), .long rr])), (ah, .inl (cI, 16, .inl hd))]) (zAt (dC, dI) zcl [(cI, .int), (cJ, .long), (cZ, .boolean)] A) A) [.ref ra, .int (nI q)].toArray s 0 0 A) (F0 m 13 ls []) := by
      intro fuel
      induction fuel with
      | zero => intro k lf H locs ls hk hlf hf; exact absurd hf (Nat.not_lt_zero _)
      | succ fuel ih =>
        intro k lf H locs ls hk hlf hf hP hD hS hl
        refine lv_iload_n hx hb zd_Q_moverBehind_13 rfl (lv_at hl 0 rfl) ?_
        refine lv_aload_n hx hb zd_Q_moverBehind_14 rfl (lv_at hl 2 rfl) ?_
        refine va_get (D := (dC, dI)) (ci := 1) (v := .int (nI cr)) (C := zR_Q) (T := zF_Q) (N := 16) hx hb htz zi_Q hown hK hP 1 rfl rfl 9 (by decide) (htz _ zq_70) (fun _ h9 => h9) rfl zd_Q_moverBehind_15 ?_
        refine lv_icmp_ge (tgt := 46) hx hb zd_Q_moverBehind_18 (by decide) (fun c5_ => ?_) (fun c5_ => ?_)
        · have hk2 : k = cr := Nat.le_antisymm hk (Nat.le_of_not_lt (fun h => nI_ge h (by omega) c5_))
          subst hk2
          have h8 := hq hw9
          omega
        · have hk2 : k < cr := Nat.lt_of_not_le (fun h => c5_ (nI_le h (by omega)))
          refine lv_aload_n hx hb zd_Q_moverBehind_21 rfl (lv_at hl 2 rfl) ?_
          refine va_get (D := (dC, dI)) (ci := 1) (v := .ref ah) (C := zR_Q) (T := zF_Q) (N := 16) hx hb htz zi_Q hown hK hP 1 rfl rfl 1 (by decide) (htz _ zq_62) (fun _ h9 => h9) rfl zd_Q_moverBehind_22 ?_
          refine lv_iload_n hx hb zd_Q_moverBehind_25 rfl (lv_at hl 0 rfl) ?_
          refine z_iald hx hb hK hP 0 0 rfl rfl (j := k) (by omega) (by decide) zd_Q_moverBehind_26 ?_
          refine lv_iconst (v := (-1)) hx hb zd_Q_moverBehind_27 (by decide) ?_
          refine lv_icmp_eq (tgt := 40) hx hb zd_Q_moverBehind_28 (by decide) (fun c6_ => ?_) (fun c6_ => ?_)
          · have hs9 := zcnt_stay (f := hd) c6_
            refine lv_iinc (v := (nI (k + 1))) (lv' := [(3, .int (nI (k + 1))), (2, .int (nI lf)), (0, .ref ra), (1, .int (nI q))]) hx hb zd_Q_moverBehind_40 hl (k := 0) rfl (nI_1 k) (by decide) rfl (fun ls hl => ?_)
            refine lv_goto (tgt := 13) hx hb zd_Q_moverBehind_43 (by decide) ?_
            exact ih (k + 1) lf _ _ _ (by omega) (by omega) (by omega) hP hD hS hl
          · have hne := c6_
            have hs9 := zcnt_step (f := hd) c6_
            refine lv_iload_n hx hb zd_Q_moverBehind_31 rfl (lv_at hl 1 rfl) ?_
            refine lv_if_ne (tgt := 37) hx hb zd_Q_moverBehind_32 (by decide) (fun c7_ => ?_) (fun c7_ => ?_)
            · have hl0 : 0 < lf := Nat.pos_of_ne_zero (fun h => c7_ (by rw [h]; rfl))
              refine lv_iinc (v := (nI (lf - 1))) (lv' := [(2, .int (nI (lf - 1))), (3, .int (nI k)), (0, .ref ra), (1, .int (nI q))]) hx hb zd_Q_moverBehind_37 hl (k := 1) rfl (sb_m1 hl0) (by decide) rfl (fun ls hl => ?_)
              refine lv_iinc (v := (nI (k + 1))) (lv' := [(3, .int (nI (k + 1))), (2, .int (nI (lf - 1))), (0, .ref ra), (1, .int (nI q))]) hx hb zd_Q_moverBehind_40 hl (k := 1) rfl (nI_1 k) (by decide) rfl (fun ls hl => ?_)
              refine lv_goto (tgt := 13) hx hb zd_Q_moverBehind_43 (by decide) ?_
              exact ih (k + 1) (lf - 1) _ _ _ (by omega) (by omega) (by omega) hP hD hS hl
            · have hl0 : lf = 0 := (nI_eq (b := 0) (by have := zcnt_le hd cr; have := zcnt_le hd k; have h8 := hq hw9; omega) (by decide)).mp c7_
              refine lv_iload_n hx hb zd_Q_moverBehind_35 rfl (lv_at hl 0 rfl) ?_
              have hP := hP.sub (ws' := [(ra, .inr (1, [.ref hp, .ref ah, .ref am, .ref at_, .ref asp, .ref afa, .ref ado, .ref adt, .ref aor, .int (nI cr), .int (nI ho), .int (nI nx), .int (nI ba), .int (nI pl), .int (nI tk), .long rr])), (ah, .inl (cI, 16, .inl hd))]) [1, 0] rfl
              have hD := hD.sub (ws' := [(ra, .inr (1, [.ref hp, .ref ah, .ref am, .ref at_, .ref asp, .ref afa, .ref ado, .ref adt, .ref aor, .int (nI cr), .int (nI ho), .int (nI nx), .int (nI ba), .int (nI pl), .int (nI tk), .long rr])), (ah, .inl (cI, 16, .inl hd))]) [1, 0] (by decide) rfl
              exact z_iret hx hb hr hlocks hP hK hD hS zd_Q_moverBehind_36 (by decide) (by decide) ⟨by rw [zbh, if_neg (Nat.not_lt.mpr hw9), zth_is hk2 hne (by omega)], rfl⟩
    exact lp13 _ 0 q _ _ _ (Nat.zero_le _) rfl (Nat.lt_succ_self _) hP hD hS hl
set_option maxHeartbeats 4000000 in
set_option maxRecDepth 100000 in
/--  -/
theorem k_Race_dropBehind_k (l : Launch) (dC : Nat → ClassId) (dI : Nat → Nat → Nat) (cI cJ cZ : ClassId) (ra : Nat) (hp : Nat) (ah : Nat) (am : Nat) (at_ : Nat) (asp : Nat) (afa : Nat) (ado : Nat) (adt : Nat) (aor : Nat) (cr : Nat) (ho : Nat) (nx : Nat) (ba : Nat) (pl : Nat) (tk : Nat) (rr : Int64) (hd : Nat → Int32) (j : Nat) (hc : cr ≤ 16) (hh : ho = zcnt hd cr) (sz : Nat) : zMv l zy_Q_dropBehind zw_Q_dropBehind ({ frames := 2, cells := 0, slots := 0, locals := 42 }) [.ref ra, .int (nI j)] (dC, dI) zcl [(cI, .int), (cJ, .long), (cZ, .boolean)] [(ra, .inr (1, [.ref hp, .ref ah, .ref am, .ref at_, .ref asp, .ref afa, .ref ado, .ref adt, .ref aor, .int (nI cr), .int (nI ho), .int (nI nx), .int (nI ba), .int (nI pl), .int (nI tk), .long rr])), (ah, .inl (cI, 16, .inl hd))] sz (fun (u : va_W) => ∃ (h2 : Nat), u = [(ra, .inr (1, [.ref hp, .ref ah, .ref am, .ref at_, .ref asp, .ref afa, .ref ado, .ref adt, .ref aor, .int (nI cr), .int (nI h2), .int (nI nx), .int (nI ba), .int (nI pl), .int (nI tk), .long rr])), (ah, .inl (cI, 16, .inl (zdrop hd cr j)))] ∧ h2 = zcnt (zdrop hd cr j) cr) := by
  refine z_ofv (cc := zc_Q_dropBehind) (maxL := 3) (ret := none) (by decide) rfl (Nat.le_of_ble_eq_true rfl) ?_
  intro p e s m below meth c A ls hx hb hr hml hown htz hlocks hin hA hP hK hD hS hl
  have hown : s.vm.findClass zR_Q = some m.cls := hown
  have hl : lv_has ls 3 [(0, .ref ra), (1, .int (nI j))] := hl
  refine lv_iconst (v := (nI 0)) hx hb zd_Q_dropBehind_0 (by decide) ?_
  refine lv_istore_n (lv' := [(2, .int (nI 0)), (0, .ref ra), (1, .int (nI j))]) hx hb zd_Q_dropBehind_1 rfl hl (by decide) rfl (fun ls hl => ?_)
  have lp2 : ∀ (fuel : Nat) (k : Nat) (o9 : Nat) (H : Heap) (locs : List Loc) (ls : Array Slot), (k ≤ cr) → (o9 = zcnt (zdrop hd k j) cr) → cr - k < fuel → va_P (dC, dI) zcl [(ra, .inr (1, [.ref hp, .ref ah, .ref am, .ref at_, .ref asp, .ref afa, .ref ado, .ref adt, .ref aor, .int (nI cr), .int (nI o9), .int (nI nx), .int (nI ba), .int (nI pl), .int (nI tk), .long rr])), (ah, .inl (cI, 16, .inl (zdrop hd k j)))] H → va_D A [(ra, .inr (1, [.ref hp, .ref ah, .ref am, .ref at_, .ref asp, .ref afa, .ref ado, .ref adt, .ref aor, .int (nI cr), .int (nI o9), .int (nI nx), .int (nI ba), .int (nI pl), .int (nI tk), .long rr])), (ah, .inl (cI, 16, .inl (zdrop hd k j)))] → va_S A s.heap H locs → lv_has ls 3 [(2, .int (nI k)), (0, .ref ra), (1, .int (nI j))] → W p l e ({ frames := 2, cells := 0, slots := 0, locals := 42 } : Room) s m [.ref ra, .int (nI j)].toArray below meth c H locs 0 0 (MQ below (va_Qv (fun (u : va_W) => ∃ (h2 : Nat), u = [(ra, .inr (1, [.ref hp, .ref ah, .ref am, .ref at_, .ref asp, .ref afa, .ref ado, .ref adt, .ref aor, .int (nI cr), .int (nI h2), .int (nI nx), .int (nI ba), .int (nI pl), .int (nI tk), .long rr])), (ah, .inl (cI, 16, .inl (zdrop hd cr j)))] ∧ h2 = zcnt (zdrop hd cr j) cr) (zAt (dC, dI) zcl [(cI, .int), (cJ, .long), (cZ, .boolean)] A) A) [.ref ra, .int (nI j)].toArray s 0 0 A) (F0 m 2 ls []) := by
    intro fuel
    induction fuel with
    | zero => intro k o9 H locs ls hk ho9 hf; exact absurd hf (Nat.not_lt_zero _)
    | succ fuel ih =>
      intro k o9 H locs ls hk ho9 hf hP hD hS hl
      refine lv_iload_n hx hb zd_Q_dropBehind_2 rfl (lv_at hl 0 rfl) ?_
      refine lv_aload_n hx hb zd_Q_dropBehind_3 rfl (lv_at hl 1 rfl) ?_
      refine va_get (D := (dC, dI)) (ci := 1) (v := .int (nI cr)) (C := zR_Q) (T := zF_Q) (N := 16) hx hb htz zi_Q hown hK hP 0 rfl rfl 9 (by decide) (htz _ zq_70) (fun _ h9 => h9) rfl zd_Q_dropBehind_4 ?_
      refine lv_icmp_ge (tgt := 31) hx hb zd_Q_dropBehind_7 (by decide) (fun c1_ => ?_) (fun c1_ => ?_)
      · have hk2 : k = cr := Nat.le_antisymm hk (Nat.le_of_not_lt (fun h => nI_ge h (by omega) c1_))
        subst hk2
        exact z_vret hx hb hr hlocks hP hK hD hS zd_Q_dropBehind_31 (by decide) (by decide) ⟨o9, rfl, ho9⟩
      · have hk2 : k < cr := Nat.lt_of_not_le (fun h => c1_ (nI_le h (by omega)))
        refine lv_aload_n hx hb zd_Q_dropBehind_10 rfl (lv_at hl 1 rfl) ?_
        refine va_get (D := (dC, dI)) (ci := 1) (v := .ref ah) (C := zR_Q) (T := zF_Q) (N := 16) hx hb htz zi_Q hown hK hP 0 rfl rfl 1 (by decide) (htz _ zq_62) (fun _ h9 => h9) rfl zd_Q_dropBehind_11 ?_
        refine lv_iload_n hx hb zd_Q_dropBehind_14 rfl (lv_at hl 0 rfl) ?_
        refine z_iald hx hb hK hP 1 0 rfl rfl (j := k) (by omega) (by decide) zd_Q_dropBehind_15 ?_
        refine lv_iload_n hx hb zd_Q_dropBehind_16 rfl (lv_at hl 2 rfl) ?_
        refine lv_icmp_le (tgt := 25) hx hb zd_Q_dropBehind_17 (by decide) (fun c2_ => ?_) (fun c2_ => ?_)
        · have hst := zdrop_stay (hd := hd) (k := k) (j := j) (z_nlt c2_)
          rw [← hst] at hP hD
          have hP : va_P (dC, dI) zcl [(ra, .inr (1, [.ref hp, .ref ah, .ref am, .ref at_, .ref asp, .ref afa, .ref ado, .ref adt, .ref aor, .int (nI cr), .int (nI o9), .int (nI nx), .int (nI ba), .int (nI pl), .int (nI tk), .long rr])), (ah, .inl (cI, 16, .inl (zdrop hd (k + 1) j)))] H := hP
          have hD : va_D A [(ra, .inr (1, [.ref hp, .ref ah, .ref am, .ref at_, .ref asp, .ref afa, .ref ado, .ref adt, .ref aor, .int (nI cr), .int (nI o9), .int (nI nx), .int (nI ba), .int (nI pl), .int (nI tk), .long rr])), (ah, .inl (cI, 16, .inl (zdrop hd (k + 1) j)))] := hD
          refine lv_iinc (v := (nI (k + 1))) (lv' := [(2, .int (nI (k + 1))), (0, .ref ra), (1, .int (nI j))]) hx hb zd_Q_dropBehind_25 hl (k := 0) rfl (nI_1 k) (by decide) rfl (fun ls hl => ?_)
          refine lv_goto (tgt := 2) hx hb zd_Q_dropBehind_28 (by decide) ?_
          exact ih (k + 1) o9 _ _ _ (by omega) (by rw [hst]; assumption) (by omega) hP hD hS hl
        · have hst := zdrop_step (hd := hd) (k := k) (j := j) (z_nle c2_)
          refine lv_aload_n hx hb zd_Q_dropBehind_20 rfl (lv_at hl 1 rfl) ?_
          refine lv_iload_n hx hb zd_Q_dropBehind_21 rfl (lv_at hl 0 rfl) ?_
          refine z_Vv (As := [.int (nI k)]) (rest := []) (wc := [(ra, .inr (1, [.ref hp, .ref ah, .ref am, .ref at_, .ref asp, .ref afa, .ref ado, .ref adt, .ref aor, .int (nI cr), .int (nI o9), .int (nI nx), .int (nI ba), .int (nI pl), .int (nI tk), .long rr])), (ah, .inl (cI, 16, .inl (zdrop hd k j)))]) (wr := []) ⟨hx, hb, hml, hown, htz⟩ hK hP hD hS hA (k_Race_letGo_k l dC dI cI cJ cZ ra hp ah am at_ asp afa ado adt aor cr o9 nx ba pl tk rr (zdrop hd k j) k (by first | assumption | omega) (by first | assumption | omega) (by first | assumption | omega) H.size) (zcwV 1 htz zq_320 zq_317 zq_319 zp_10 zq_5 (by decide +kernel) ⟨Nat.le_of_ble_eq_true rfl, Nat.le_of_ble_eq_true rfl⟩) 0 1 rfl rfl [0, 1] [] rfl rfl rfl (by decide) rfl hl.1 rfl (Nat.le_of_ble_eq_true rfl) zd_Q_dropBehind_22 ⟨Nat.le_of_ble_eq_true rfl, Nat.le_of_ble_eq_true rfl⟩ (fun u H locs hw hP hD hS => ?_)
          obtain ⟨h23_, h94_, rfl, hh5_, hk6_⟩ := hw
          have hP : va_P (dC, dI) zcl [(ra, .inr (1, [.ref hp, .ref ah, .ref am, .ref at_, .ref asp, .ref afa, .ref ado, .ref adt, .ref aor, .int (nI cr), .int (nI h23_), .int (nI nx), .int (nI ba), .int (nI pl), .int (nI tk), .long rr])), (ah, .inl (cI, 16, .inl h94_))] H := hP
          have hD : va_D A [(ra, .inr (1, [.ref hp, .ref ah, .ref am, .ref at_, .ref asp, .ref afa, .ref ado, .ref adt, .ref aor, .int (nI cr), .int (nI h23_), .int (nI nx), .int (nI ba), .int (nI pl), .int (nI tk), .long rr])), (ah, .inl (cI, 16, .inl h94_))] := hD
          obtain rfl := hh5_
          rw [← hst] at hP hD
          have hP : va_P (dC, dI) zcl [(ra, .inr (1, [.ref hp, .ref ah, .ref am, .ref at_, .ref asp, .ref afa, .ref ado, .ref adt, .ref aor, .int (nI cr), .int (nI h23_), .int (nI nx), .int (nI ba), .int (nI pl), .int (nI tk), .long rr])), (ah, .inl (cI, 16, .inl (zdrop hd (k + 1) j)))] H := hP
          have hD : va_D A [(ra, .inr (1, [.ref hp, .ref ah, .ref am, .ref at_, .ref asp, .ref afa, .ref ado, .ref adt, .ref aor, .int (nI cr), .int (nI h23_), .int (nI nx), .int (nI ba), .int (nI pl), .int (nI tk), .long rr])), (ah, .inl (cI, 16, .inl (zdrop hd (k + 1) j)))] := hD
          refine lv_iinc (v := (nI (k + 1))) (lv' := [(2, .int (nI (k + 1))), (0, .ref ra), (1, .int (nI j))]) hx hb zd_Q_dropBehind_25 hl (k := 0) rfl (nI_1 k) (by decide) rfl (fun ls hl => ?_)
          refine lv_goto (tgt := 2) hx hb zd_Q_dropBehind_28 (by decide) ?_
          exact ih (k + 1) h23_ _ _ _ (by omega) (by rw [hst]; assumption) (by omega) hP hD hS hl
  exact lp2 _ 0 ho _ _ _ (Nat.zero_le _) (by rw [zdrop_0]; exact hh) (Nat.lt_succ_self _) hP hD hS hl
