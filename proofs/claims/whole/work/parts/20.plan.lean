set_option maxHeartbeats 4000000 in
set_option maxRecDepth 100000 in
/--  -/
theorem k_Plan_size (l : Launch) (dC : Nat → ClassId) (dI : Nat → Nat → Nat) (cI cJ cZ : ClassId) (hp : Nat) (aw : Nat) (av : Nat) (az : Nat) (af : Nat) (n : Nat)  (sz : Nat) : zMi l zy_P_size zw_P_size ({ frames := 0, cells := 0, slots := 0, locals := 0 }) [.ref hp] (dC, dI) zcl [(cI, .int), (cJ, .long), (cZ, .boolean)] [(hp, .inr (0, [.int (nI n), .ref aw, .ref av, .ref az, .ref af]))] sz (fun (r : Int32) (u : va_W) => r = nI n ∧ u = [(hp, .inr (0, [.int (nI n), .ref aw, .ref av, .ref az, .ref af]))]) := by
  refine z_ofi (cc := zc_P_size) (maxL := 1) (ret := (some .int)) (by decide) rfl (Nat.le_of_ble_eq_true rfl) ?_
  intro p e s m below meth c A ls hx hb hr hml hown htz hlocks hin hA hP hK hD hS hl
  have hown : s.vm.findClass zR_P = some m.cls := hown
  have hl : lv_has ls 1 [(0, .ref hp)] := hl
  refine lv_aload_n hx hb zd_P_size_0 rfl (lv_at hl 0 rfl) ?_
  refine va_get (D := (dC, dI)) (ci := 0) (v := .int (nI n)) (C := zR_P) (T := zF_P) (N := 5) hx hb htz zi_P hown hK hP 0 rfl rfl 0 (by decide) (htz _ zq_36) (fun _ h9 => h9) rfl zd_P_size_1 ?_
  exact z_iret hx hb hr hlocks hP hK hD hS zd_P_size_4 (by decide) (by decide) ⟨rfl, rfl⟩
set_option maxHeartbeats 4000000 in
set_option maxRecDepth 100000 in
/--  -/
theorem k_Plan_has (l : Launch) (dC : Nat → ClassId) (dI : Nat → Nat → Nat) (cI cJ cZ : ClassId) (hp : Nat) (aw : Nat) (av : Nat) (az : Nat) (af : Nat) (n : Nat) (sh : Int32) (hn : n ≤ 16) (sz : Nat) : zMi l zy_P_has zw_P_has ({ frames := 0, cells := 0, slots := 0, locals := 0 }) [.ref hp, .int sh] (dC, dI) zcl [(cI, .int), (cJ, .long), (cZ, .boolean)] [(hp, .inr (0, [.int (nI n), .ref aw, .ref av, .ref az, .ref af]))] sz (fun (r : Int32) (u : va_W) => (∃ (j : Nat), r = nI 1 ∧ u = [(hp, .inr (0, [.int (nI n), .ref aw, .ref av, .ref az, .ref af]))] ∧ j < n ∧ sh = nI j) ∨ (r = nI 0 ∧ u = [(hp, .inr (0, [.int (nI n), .ref aw, .ref av, .ref az, .ref af]))] ∧ (∀ j, j < n → sh ≠ nI j))) := by
  refine z_ofi (cc := zc_P_has) (maxL := 2) (ret := (some .boolean)) (by decide) rfl (Nat.le_of_ble_eq_true rfl) ?_
  intro p e s m below meth c A ls hx hb hr hml hown htz hlocks hin hA hP hK hD hS hl
  have hown : s.vm.findClass zR_P = some m.cls := hown
  have hl : lv_has ls 2 [(0, .ref hp), (1, .int sh)] := hl
  refine lv_iload_n hx hb zd_P_has_0 rfl (lv_at hl 1 rfl) ?_
  refine lv_if_lt (tgt := 16) hx hb zd_P_has_1 (by decide) (fun c1_ => ?_) (fun c1_ => ?_)
  · have hno9 := z_neg (n := n) (by omega) c1_
    refine lv_iconst (v := (nI 0)) hx hb zd_P_has_16 (by decide) ?_
    exact z_zret hx hb hr hlocks hP hK hD hS zd_P_has_17 (by decide) (by decide) rfl (Or.inr ⟨rfl, rfl, hno9⟩)
  · have h0_ := c1_
    refine lv_iload_n hx hb zd_P_has_4 rfl (lv_at hl 1 rfl) ?_
    refine lv_aload_n hx hb zd_P_has_5 rfl (lv_at hl 0 rfl) ?_
    refine va_get (D := (dC, dI)) (ci := 0) (v := .int (nI n)) (C := zR_P) (T := zF_P) (N := 5) hx hb htz zi_P hown hK hP 0 rfl rfl 0 (by decide) (htz _ zq_36) (fun _ h9 => h9) rfl zd_P_has_6 ?_
    refine lv_icmp_ge (tgt := 16) hx hb zd_P_has_9 (by decide) (fun c2_ => ?_) (fun c2_ => ?_)
    · have hno9 := z_big (n := n) (by omega) c2_
      refine lv_iconst (v := (nI 0)) hx hb zd_P_has_16 (by decide) ?_
      exact z_zret hx hb hr hlocks hP hK hD hS zd_P_has_17 (by decide) (by decide) rfl (Or.inr ⟨rfl, rfl, hno9⟩)
    · obtain ⟨j9, hj9, ej9⟩ := z_has (n := n) (by omega) h0_ c2_
      refine lv_iconst (v := (nI 1)) hx hb zd_P_has_12 (by decide) ?_
      refine lv_goto (tgt := 17) hx hb zd_P_has_13 (by decide) ?_
      exact z_zret hx hb hr hlocks hP hK hD hS zd_P_has_17 (by decide) (by decide) rfl (Or.inl ⟨j9, rfl, rfl, hj9, ej9⟩)
set_option maxHeartbeats 4000000 in
set_option maxRecDepth 100000 in
/--  -/
theorem k_Plan_has_k (l : Launch) (dC : Nat → ClassId) (dI : Nat → Nat → Nat) (cI cJ cZ : ClassId) (hp : Nat) (aw : Nat) (av : Nat) (az : Nat) (af : Nat) (n : Nat) (j : Nat) (hn : n ≤ 16) (hj : j < n) (sz : Nat) : zMi l zy_P_has zw_P_has ({ frames := 0, cells := 0, slots := 0, locals := 0 }) [.ref hp, .int (nI j)] (dC, dI) zcl [(cI, .int), (cJ, .long), (cZ, .boolean)] [(hp, .inr (0, [.int (nI n), .ref aw, .ref av, .ref az, .ref af]))] sz (fun (r : Int32) (u : va_W) => r = nI 1 ∧ u = [(hp, .inr (0, [.int (nI n), .ref aw, .ref av, .ref az, .ref af]))]) := by
  refine z_ofi (cc := zc_P_has) (maxL := 2) (ret := (some .boolean)) (by decide) rfl (Nat.le_of_ble_eq_true rfl) ?_
  intro p e s m below meth c A ls hx hb hr hml hown htz hlocks hin hA hP hK hD hS hl
  have hown : s.vm.findClass zR_P = some m.cls := hown
  have hl : lv_has ls 2 [(0, .ref hp), (1, .int (nI j))] := hl
  refine lv_iload_n hx hb zd_P_has_0 rfl (lv_at hl 1 rfl) ?_
  refine lv_if_lt (tgt := 16) hx hb zd_P_has_1 (by decide) (fun c1_ => absurd c1_ (nI_pos (by omega))) (fun c1_ => ?_)
  refine lv_iload_n hx hb zd_P_has_4 rfl (lv_at hl 1 rfl) ?_
  refine lv_aload_n hx hb zd_P_has_5 rfl (lv_at hl 0 rfl) ?_
  refine va_get (D := (dC, dI)) (ci := 0) (v := .int (nI n)) (C := zR_P) (T := zF_P) (N := 5) hx hb htz zi_P hown hK hP 0 rfl rfl 0 (by decide) (htz _ zq_36) (fun _ h9 => h9) rfl zd_P_has_6 ?_
  refine lv_icmp_ge (tgt := 16) hx hb zd_P_has_9 (by decide) (fun c2_ => absurd c2_ (nI_ge hj (by omega))) (fun c2_ => ?_)
  refine lv_iconst (v := (nI 1)) hx hb zd_P_has_12 (by decide) ?_
  refine lv_goto (tgt := 17) hx hb zd_P_has_13 (by decide) ?_
  exact z_zret hx hb hr hlocks hP hK hD hS zd_P_has_17 (by decide) (by decide) rfl ⟨rfl, rfl⟩
set_option maxHeartbeats 4000000 in
set_option maxRecDepth 100000 in
/--  -/
theorem k_Plan_workOf_k (l : Launch) (dC : Nat → ClassId) (dI : Nat → Nat → Nat) (cI cJ cZ : ClassId) (hp : Nat) (aw : Nat) (av : Nat) (az : Nat) (af : Nat) (n : Nat) (wk : Nat → Int32) (j : Nat) (hn : n ≤ 16) (hj : j < n) (sz : Nat) : zMi l zy_P_workOf zw_P_workOf ({ frames := 1, cells := 0, slots := 0, locals := 21 }) [.ref hp, .int (nI j)] (dC, dI) zcl [(cI, .int), (cJ, .long), (cZ, .boolean)] [(hp, .inr (0, [.int (nI n), .ref aw, .ref av, .ref az, .ref af])), (aw, .inl (cI, 16, .inl wk))] sz (fun (r : Int32) (u : va_W) => r = wk j ∧ u = [(hp, .inr (0, [.int (nI n), .ref aw, .ref av, .ref az, .ref af])), (aw, .inl (cI, 16, .inl wk))]) := by
  refine z_ofi (cc := zc_P_workOf) (maxL := 2) (ret := (some .int)) (by decide) rfl (Nat.le_of_ble_eq_true rfl) ?_
  intro p e s m below meth c A ls hx hb hr hml hown htz hlocks hin hA hP hK hD hS hl
  have hown : s.vm.findClass zR_P = some m.cls := hown
  have hl : lv_has ls 2 [(0, .ref hp), (1, .int (nI j))] := hl
  refine lv_aload_n hx hb zd_P_workOf_0 rfl (lv_at hl 0 rfl) ?_
  refine lv_iload_n hx hb zd_P_workOf_1 rfl (lv_at hl 1 rfl) ?_
  refine z_Vi (As := [.int (nI j)]) (rest := []) (wc := [(hp, .inr (0, [.int (nI n), .ref aw, .ref av, .ref az, .ref af]))]) (wr := [(aw, .inl (cI, 16, .inl wk))]) ⟨hx, hb, hml, hown, htz⟩ hK hP hD hS hA (k_Plan_has_k l dC dI cI cJ cZ hp aw av az af n j (by first | assumption | omega) (by first | assumption | omega) s.heap.size) (zcwV 1 htz zq_147 zq_236 zq_145 zq_146 zq_2 (by decide +kernel) ⟨Nat.le_of_ble_eq_true rfl, Nat.le_of_ble_eq_true rfl⟩) 0 0 rfl rfl [0] [1] rfl rfl rfl (by decide) rfl hl.1 rfl (Nat.le_of_ble_eq_true rfl) zd_P_workOf_2 ⟨Nat.le_of_ble_eq_true rfl, Nat.le_of_ble_eq_true rfl⟩ (fun r u H locs hw hP hD hS => ?_)
  obtain ⟨rfl, rfl⟩ := hw
  have hP : va_P (dC, dI) zcl [(aw, .inl (cI, 16, .inl wk)), (hp, .inr (0, [.int (nI n), .ref aw, .ref av, .ref az, .ref af]))] H := hP
  have hD : va_D A [(aw, .inl (cI, 16, .inl wk)), (hp, .inr (0, [.int (nI n), .ref aw, .ref av, .ref az, .ref af]))] := hD
  refine lv_if_eq (tgt := 17) hx hb zd_P_workOf_5 (by decide) (fun c1_ => absurd c1_ (by decide)) (fun _ => ?_)
  refine lv_aload_n hx hb zd_P_workOf_8 rfl (lv_at hl 0 rfl) ?_
  refine va_get (D := (dC, dI)) (ci := 0) (v := .ref aw) (C := zR_P) (T := zF_P) (N := 5) hx hb htz zi_P hown hK hP 1 rfl rfl 1 (by decide) (htz _ zq_37) (fun _ h9 => h9) rfl zd_P_workOf_9 ?_
  refine lv_iload_n hx hb zd_P_workOf_12 rfl (lv_at hl 1 rfl) ?_
  refine z_iald hx hb hK hP 0 0 rfl rfl (j := j) (by omega) (by decide) zd_P_workOf_13 ?_
  refine lv_goto (tgt := 18) hx hb zd_P_workOf_14 (by decide) ?_
  have hP := hP.sub (ws' := [(hp, .inr (0, [.int (nI n), .ref aw, .ref av, .ref az, .ref af])), (aw, .inl (cI, 16, .inl wk))]) [1, 0] rfl
  have hD := hD.sub (ws' := [(hp, .inr (0, [.int (nI n), .ref aw, .ref av, .ref az, .ref af])), (aw, .inl (cI, 16, .inl wk))]) [1, 0] (by decide) rfl
  exact z_iret hx hb hr hlocks hP hK hD hS zd_P_workOf_18 (by decide) (by decide) ⟨rfl, rfl⟩
set_option maxHeartbeats 4000000 in
set_option maxRecDepth 100000 in
/--  -/
theorem k_Plan_faultsOf_k (l : Launch) (dC : Nat → ClassId) (dI : Nat → Nat → Nat) (cI cJ cZ : ClassId) (hp : Nat) (aw : Nat) (av : Nat) (az : Nat) (af : Nat) (n : Nat) (fl : Nat → Int32) (j : Nat) (hn : n ≤ 16) (hj : j < n) (sz : Nat) : zMi l zy_P_faultsOf zw_P_faultsOf ({ frames := 1, cells := 0, slots := 0, locals := 21 }) [.ref hp, .int (nI j)] (dC, dI) zcl [(cI, .int), (cJ, .long), (cZ, .boolean)] [(hp, .inr (0, [.int (nI n), .ref aw, .ref av, .ref az, .ref af])), (af, .inl (cI, 16, .inl fl))] sz (fun (r : Int32) (u : va_W) => r = fl j ∧ u = [(hp, .inr (0, [.int (nI n), .ref aw, .ref av, .ref az, .ref af])), (af, .inl (cI, 16, .inl fl))]) := by
  refine z_ofi (cc := zc_P_faultsOf) (maxL := 2) (ret := (some .int)) (by decide) rfl (Nat.le_of_ble_eq_true rfl) ?_
  intro p e s m below meth c A ls hx hb hr hml hown htz hlocks hin hA hP hK hD hS hl
  have hown : s.vm.findClass zR_P = some m.cls := hown
  have hl : lv_has ls 2 [(0, .ref hp), (1, .int (nI j))] := hl
  refine lv_aload_n hx hb zd_P_faultsOf_0 rfl (lv_at hl 0 rfl) ?_
  refine lv_iload_n hx hb zd_P_faultsOf_1 rfl (lv_at hl 1 rfl) ?_
  refine z_Vi (As := [.int (nI j)]) (rest := []) (wc := [(hp, .inr (0, [.int (nI n), .ref aw, .ref av, .ref az, .ref af]))]) (wr := [(af, .inl (cI, 16, .inl fl))]) ⟨hx, hb, hml, hown, htz⟩ hK hP hD hS hA (k_Plan_has_k l dC dI cI cJ cZ hp aw av az af n j (by first | assumption | omega) (by first | assumption | omega) s.heap.size) (zcwV 1 htz zq_147 zq_236 zq_145 zq_146 zq_2 (by decide +kernel) ⟨Nat.le_of_ble_eq_true rfl, Nat.le_of_ble_eq_true rfl⟩) 0 0 rfl rfl [0] [1] rfl rfl rfl (by decide) rfl hl.1 rfl (Nat.le_of_ble_eq_true rfl) zd_P_faultsOf_2 ⟨Nat.le_of_ble_eq_true rfl, Nat.le_of_ble_eq_true rfl⟩ (fun r u H locs hw hP hD hS => ?_)
  obtain ⟨rfl, rfl⟩ := hw
  have hP : va_P (dC, dI) zcl [(af, .inl (cI, 16, .inl fl)), (hp, .inr (0, [.int (nI n), .ref aw, .ref av, .ref az, .ref af]))] H := hP
  have hD : va_D A [(af, .inl (cI, 16, .inl fl)), (hp, .inr (0, [.int (nI n), .ref aw, .ref av, .ref az, .ref af]))] := hD
  refine lv_if_eq (tgt := 17) hx hb zd_P_faultsOf_5 (by decide) (fun c1_ => absurd c1_ (by decide)) (fun _ => ?_)
  refine lv_aload_n hx hb zd_P_faultsOf_8 rfl (lv_at hl 0 rfl) ?_
  refine va_get (D := (dC, dI)) (ci := 0) (v := .ref af) (C := zR_P) (T := zF_P) (N := 5) hx hb htz zi_P hown hK hP 1 rfl rfl 4 (by decide) (htz _ zq_40) (fun _ h9 => h9) rfl zd_P_faultsOf_9 ?_
  refine lv_iload_n hx hb zd_P_faultsOf_12 rfl (lv_at hl 1 rfl) ?_
  refine z_iald hx hb hK hP 0 0 rfl rfl (j := j) (by omega) (by decide) zd_P_faultsOf_13 ?_
  refine lv_goto (tgt := 18) hx hb zd_P_faultsOf_14 (by decide) ?_
  have hP := hP.sub (ws' := [(hp, .inr (0, [.int (nI n), .ref aw, .ref av, .ref az, .ref af])), (af, .inl (cI, 16, .inl fl))]) [1, 0] rfl
  have hD := hD.sub (ws' := [(hp, .inr (0, [.int (nI n), .ref aw, .ref av, .ref az, .ref af])), (af, .inl (cI, 16, .inl fl))]) [1, 0] (by decide) rfl
  exact z_iret hx hb hr hlocks hP hK hD hS zd_P_faultsOf_18 (by decide) (by decide) ⟨rfl, rfl⟩
set_option maxHeartbeats 4000000 in
set_option maxRecDepth 100000 in
/--  -/
theorem k_Plan_isSettling_k (l : Launch) (dC : Nat → ClassId) (dI : Nat → Nat → Nat) (cI cJ cZ : ClassId) (hp : Nat) (aw : Nat) (av : Nat) (az : Nat) (af : Nat) (n : Nat) (se : Nat → Int32) (j : Nat) (hn : n ≤ 16) (hj : j < n) (sz : Nat) : zMi l zy_P_isSettling zw_P_isSettling ({ frames := 1, cells := 0, slots := 0, locals := 21 }) [.ref hp, .int (nI j)] (dC, dI) zcl [(cI, .int), (cJ, .long), (cZ, .boolean)] [(hp, .inr (0, [.int (nI n), .ref aw, .ref av, .ref az, .ref af])), (az, .inl (cZ, 16, .inl se))] sz (fun (r : Int32) (u : va_W) => (r = nI 1 ∧ u = [(hp, .inr (0, [.int (nI n), .ref aw, .ref av, .ref az, .ref af])), (az, .inl (cZ, 16, .inl se))] ∧ se j ≠ 0) ∨ (r = nI 0 ∧ u = [(hp, .inr (0, [.int (nI n), .ref aw, .ref av, .ref az, .ref af])), (az, .inl (cZ, 16, .inl se))] ∧ se j = 0)) := by
  refine z_ofi (cc := zc_P_isSettling) (maxL := 2) (ret := (some .boolean)) (by decide) rfl (Nat.le_of_ble_eq_true rfl) ?_
  intro p e s m below meth c A ls hx hb hr hml hown htz hlocks hin hA hP hK hD hS hl
  have hown : s.vm.findClass zR_P = some m.cls := hown
  have hl : lv_has ls 2 [(0, .ref hp), (1, .int (nI j))] := hl
  refine lv_aload_n hx hb zd_P_isSettling_0 rfl (lv_at hl 0 rfl) ?_
  refine lv_iload_n hx hb zd_P_isSettling_1 rfl (lv_at hl 1 rfl) ?_
  refine z_Vi (As := [.int (nI j)]) (rest := []) (wc := [(hp, .inr (0, [.int (nI n), .ref aw, .ref av, .ref az, .ref af]))]) (wr := [(az, .inl (cZ, 16, .inl se))]) ⟨hx, hb, hml, hown, htz⟩ hK hP hD hS hA (k_Plan_has_k l dC dI cI cJ cZ hp aw av az af n j (by first | assumption | omega) (by first | assumption | omega) s.heap.size) (zcwV 1 htz zq_147 zq_236 zq_145 zq_146 zq_2 (by decide +kernel) ⟨Nat.le_of_ble_eq_true rfl, Nat.le_of_ble_eq_true rfl⟩) 0 0 rfl rfl [0] [1] rfl rfl rfl (by decide) rfl hl.1 rfl (Nat.le_of_ble_eq_true rfl) zd_P_isSettling_2 ⟨Nat.le_of_ble_eq_true rfl, Nat.le_of_ble_eq_true rfl⟩ (fun r u H locs hw hP hD hS => ?_)
  obtain ⟨rfl, rfl⟩ := hw
  have hP : va_P (dC, dI) zcl [(az, .inl (cZ, 16, .inl se)), (hp, .inr (0, [.int (nI n), .ref aw, .ref av, .ref az, .ref af]))] H := hP
  have hD : va_D A [(az, .inl (cZ, 16, .inl se)), (hp, .inr (0, [.int (nI n), .ref aw, .ref av, .ref az, .ref af]))] := hD
  refine lv_if_eq (tgt := 21) hx hb zd_P_isSettling_5 (by decide) (fun c1_ => absurd c1_ (by decide)) (fun _ => ?_)
  refine lv_aload_n hx hb zd_P_isSettling_8 rfl (lv_at hl 0 rfl) ?_
  refine va_get (D := (dC, dI)) (ci := 0) (v := .ref az) (C := zR_P) (T := zF_P) (N := 5) hx hb htz zi_P hown hK hP 1 rfl rfl 3 (by decide) (htz _ zq_39) (fun _ h9 => h9) rfl zd_P_isSettling_9 ?_
  refine lv_iload_n hx hb zd_P_isSettling_12 rfl (lv_at hl 1 rfl) ?_
  refine z_zald hx hb hK hP 0 2 rfl rfl (j := j) (by omega) (by decide) zd_P_isSettling_13 ?_
  refine lv_if_eq (tgt := 21) hx hb zd_P_isSettling_14 (by decide) (fun c2_ => ?_) (fun c2_ => ?_)
  · have hs9 := c2_
    refine lv_iconst (v := (nI 0)) hx hb zd_P_isSettling_21 (by decide) ?_
    have hP := hP.sub (ws' := [(hp, .inr (0, [.int (nI n), .ref aw, .ref av, .ref az, .ref af])), (az, .inl (cZ, 16, .inl se))]) [1, 0] rfl
    have hD := hD.sub (ws' := [(hp, .inr (0, [.int (nI n), .ref aw, .ref av, .ref az, .ref af])), (az, .inl (cZ, 16, .inl se))]) [1, 0] (by decide) rfl
    exact z_zret hx hb hr hlocks hP hK hD hS zd_P_isSettling_22 (by decide) (by decide) rfl (Or.inr ⟨rfl, rfl, hs9⟩)
  · have hs9 := c2_
    refine lv_iconst (v := (nI 1)) hx hb zd_P_isSettling_17 (by decide) ?_
    refine lv_goto (tgt := 22) hx hb zd_P_isSettling_18 (by decide) ?_
    have hP := hP.sub (ws' := [(hp, .inr (0, [.int (nI n), .ref aw, .ref av, .ref az, .ref af])), (az, .inl (cZ, 16, .inl se))]) [1, 0] rfl
    have hD := hD.sub (ws' := [(hp, .inr (0, [.int (nI n), .ref aw, .ref av, .ref az, .ref af])), (az, .inl (cZ, 16, .inl se))]) [1, 0] (by decide) rfl
    exact z_zret hx hb hr hlocks hP hK hD hS zd_P_isSettling_22 (by decide) (by decide) rfl (Or.inl ⟨rfl, rfl, hs9⟩)
set_option maxHeartbeats 4000000 in
set_option maxRecDepth 100000 in
/--  -/
theorem k_Plan_winner (l : Launch) (dC : Nat → ClassId) (dI : Nat → Nat → Nat) (cI cJ cZ : ClassId) (hp : Nat) (aw : Nat) (av : Nat) (az : Nat) (af : Nat) (n : Nat) (se : Nat → Int32) (hn : n ≤ 16) (sz : Nat) : zMi l zy_P_winner zw_P_winner ({ frames := 0, cells := 0, slots := 0, locals := 0 }) [.ref hp] (dC, dI) zcl [(cI, .int), (cJ, .long), (cZ, .boolean)] [(hp, .inr (0, [.int (nI n), .ref aw, .ref av, .ref az, .ref af])), (az, .inl (cZ, 16, .inl se))] sz (fun (r : Int32) (u : va_W) => (r = nI (zwin se n) ∧ u = [(hp, .inr (0, [.int (nI n), .ref aw, .ref av, .ref az, .ref af])), (az, .inl (cZ, 16, .inl se))] ∧ zwin se n < n) ∨ (r = (-1) ∧ u = [(hp, .inr (0, [.int (nI n), .ref aw, .ref av, .ref az, .ref af])), (az, .inl (cZ, 16, .inl se))] ∧ zwin se n = n)) := by
  refine z_ofi (cc := zc_P_winner) (maxL := 2) (ret := (some .int)) (by decide) rfl (Nat.le_of_ble_eq_true rfl) ?_
  intro p e s m below meth c A ls hx hb hr hml hown htz hlocks hin hA hP hK hD hS hl
  have hown : s.vm.findClass zR_P = some m.cls := hown
  have hl : lv_has ls 2 [(0, .ref hp)] := hl
  refine lv_iconst (v := (nI 0)) hx hb zd_P_winner_0 (by decide) ?_
  refine lv_istore_n (lv' := [(1, .int (nI 0)), (0, .ref hp)]) hx hb zd_P_winner_1 rfl hl (by decide) rfl (fun ls hl => ?_)
  have lp2 : ∀ (fuel : Nat) (k : Nat) (H : Heap) (locs : List Loc) (ls : Array Slot), (k ≤ n) → (∀ q, q < k → se q = 0) → n - k < fuel → va_P (dC, dI) zcl [(hp, .inr (0, [.int (nI n), .ref aw, .ref av, .ref az, .ref af])), (az, .inl (cZ, 16, .inl se))] H → va_D A [(hp, .inr (0, [.int (nI n), .ref aw, .ref av, .ref az, .ref af])), (az, .inl (cZ, 16, .inl se))] → va_S A s.heap H locs → lv_has ls 2 [(1, .int (nI k)), (0, .ref hp)] → W p l e ({ frames := 0, cells := 0, slots := 0, locals := 0 } : Room) s m [.ref hp].toArray below meth c H locs 0 0 (MQ below (va_Qi (fun (r : Int32) (u : va_W) => (r = nI (zwin se n) ∧ u = [(hp, .inr (0, [.int (nI n), .ref aw, .ref av, .ref az, .ref af])), (az, .inl (cZ, 16, .inl se))] ∧ zwin se n < n) ∨ (r = (-1) ∧ u = [(hp, .inr (0, [.int (nI n), .ref aw, .ref av, .ref az, .ref af])), (az, .inl (cZ, 16, .inl se))] ∧ zwin se n = n)) (zAt (dC, dI) zcl [(cI, .int), (cJ, .long), (cZ, .boolean)] A) A) [.ref hp].toArray s 0 0 A) (F0 m 2 ls []) := by
    intro fuel
    induction fuel with
    | zero => intro k H locs ls hk hz hf; exact absurd hf (Nat.not_lt_zero _)
    | succ fuel ih =>
      intro k H locs ls hk hz hf hP hD hS hl
      refine lv_iload_n hx hb zd_P_winner_2 rfl (lv_at hl 0 rfl) ?_
      refine lv_aload_n hx hb zd_P_winner_3 rfl (lv_at hl 1 rfl) ?_
      refine va_get (D := (dC, dI)) (ci := 0) (v := .int (nI n)) (C := zR_P) (T := zF_P) (N := 5) hx hb htz zi_P hown hK hP 0 rfl rfl 0 (by decide) (htz _ zq_36) (fun _ h9 => h9) rfl zd_P_winner_4 ?_
      refine lv_icmp_ge (tgt := 27) hx hb zd_P_winner_7 (by decide) (fun c1_ => ?_) (fun c1_ => ?_)
      · have hk2 : k = n := Nat.le_antisymm hk (Nat.le_of_not_lt (fun h => nI_ge h (by omega) c1_))
        subst hk2
        have hw9 := zwin_no hz
        refine lv_iconst (v := (-1)) hx hb zd_P_winner_27 (by decide) ?_
        exact z_iret hx hb hr hlocks hP hK hD hS zd_P_winner_28 (by decide) (by decide) (Or.inr ⟨rfl, rfl, hw9⟩)
      · have hk2 : k < n := Nat.lt_of_not_le (fun h => c1_ (nI_le h (by omega)))
        refine lv_aload_n hx hb zd_P_winner_10 rfl (lv_at hl 1 rfl) ?_
        refine va_get (D := (dC, dI)) (ci := 0) (v := .ref az) (C := zR_P) (T := zF_P) (N := 5) hx hb htz zi_P hown hK hP 0 rfl rfl 3 (by decide) (htz _ zq_39) (fun _ h9 => h9) rfl zd_P_winner_11 ?_
        refine lv_iload_n hx hb zd_P_winner_14 rfl (lv_at hl 0 rfl) ?_
        refine z_zald hx hb hK hP 1 2 rfl rfl (j := k) (by omega) (by decide) zd_P_winner_15 ?_
        refine lv_if_eq (tgt := 21) hx hb zd_P_winner_16 (by decide) (fun c2_ => ?_) (fun c2_ => ?_)
        · have hz2 : ∀ q, q < k + 1 → se q = 0 := fun q hq => (Nat.lt_or_eq_of_le (Nat.le_of_lt_succ hq)).elim (hz q) (fun e => e ▸ c2_)
          refine lv_iinc (v := (nI (k + 1))) (lv' := [(1, .int (nI (k + 1))), (0, .ref hp)]) hx hb zd_P_winner_21 hl (k := 0) rfl (nI_1 k) (by decide) rfl (fun ls hl => ?_)
          refine lv_goto (tgt := 2) hx hb zd_P_winner_24 (by decide) ?_
          exact ih (k + 1) _ _ _ (by omega) hz2 (by omega) hP hD hS hl
        · have hw9 := zwin_at hk2 hz c2_
          refine lv_iload_n hx hb zd_P_winner_19 rfl (lv_at hl 0 rfl) ?_
          exact z_iret hx hb hr hlocks hP hK hD hS zd_P_winner_20 (by decide) (by decide) (Or.inl ⟨by rw [hw9], rfl, by rw [hw9]; exact hk2⟩)
  exact lp2 _ 0 _ _ _ (Nat.zero_le _) (fun q hq => absurd hq (Nat.not_lt_zero _)) (Nat.lt_succ_self _) hP hD hS hl
