set_option maxHeartbeats 4000000 in
set_option maxRecDepth 100000 in
/--  -/
theorem k_Race_hasWorker (l : Launch) (dC : Nat → ClassId) (dI : Nat → Nat → Nat) (cI cJ cZ : ClassId) (ra : Nat) (hp : Nat) (ah : Nat) (am : Nat) (at_ : Nat) (asp : Nat) (afa : Nat) (ado : Nat) (adt : Nat) (aor : Nat) (cr : Nat) (ho : Nat) (nx : Nat) (ba : Nat) (pl : Nat) (tk : Nat) (rr : Int64) (sh : Int32) (hc : cr ≤ 16) (sz : Nat) : zMi l zy_Q_hasWorker zw_Q_hasWorker ({ frames := 0, cells := 0, slots := 0, locals := 0 }) [.ref ra, .int sh] (dC, dI) zcl [(cI, .int), (cJ, .long), (cZ, .boolean)] [(ra, .inr (1, [.ref hp, .ref ah, .ref am, .ref at_, .ref asp, .ref afa, .ref ado, .ref adt, .ref aor, .int (nI cr), .int (nI ho), .int (nI nx), .int (nI ba), .int (nI pl), .int (nI tk), .long rr]))] sz (fun (r : Int32) (u : va_W) => (∃ (j : Nat), r = nI 1 ∧ u = [(ra, .inr (1, [.ref hp, .ref ah, .ref am, .ref at_, .ref asp, .ref afa, .ref ado, .ref adt, .ref aor, .int (nI cr), .int (nI ho), .int (nI nx), .int (nI ba), .int (nI pl), .int (nI tk), .long rr]))] ∧ j < cr ∧ sh = nI j) ∨ (r = nI 0 ∧ u = [(ra, .inr (1, [.ref hp, .ref ah, .ref am, .ref at_, .ref asp, .ref afa, .ref ado, .ref adt, .ref aor, .int (nI cr), .int (nI ho), .int (nI nx), .int (nI ba), .int (nI pl), .int (nI tk), .long rr]))] ∧ (∀ j, j < cr → sh ≠ nI j))) := by
  refine z_ofi (cc := zc_Q_hasWorker) (maxL := 2) (ret := (some .boolean)) (by decide) rfl (Nat.le_of_ble_eq_true rfl) ?_
  intro p e s m below meth c A ls hx hb hr hml hown htz hlocks hin hA hP hK hD hS hl
  have hown : s.vm.findClass zR_Q = some m.cls := hown
  have hl : lv_has ls 2 [(0, .ref ra), (1, .int sh)] := hl
  refine lv_iload_n hx hb zd_Q_hasWorker_0 rfl (lv_at hl 1 rfl) ?_
  refine lv_if_lt (tgt := 16) hx hb zd_Q_hasWorker_1 (by decide) (fun c1_ => ?_) (fun c1_ => ?_)
  · have hno9 := z_neg (n := cr) (by omega) c1_
    refine lv_iconst (v := (nI 0)) hx hb zd_Q_hasWorker_16 (by decide) ?_
    exact z_zret hx hb hr hlocks hP hK hD hS zd_Q_hasWorker_17 (by decide) (by decide) rfl (Or.inr ⟨rfl, rfl, hno9⟩)
  · have h0_ := c1_
    refine lv_iload_n hx hb zd_Q_hasWorker_4 rfl (lv_at hl 1 rfl) ?_
    refine lv_aload_n hx hb zd_Q_hasWorker_5 rfl (lv_at hl 0 rfl) ?_
    refine va_get (D := (dC, dI)) (ci := 1) (v := .int (nI cr)) (C := zR_Q) (T := zF_Q) (N := 16) hx hb htz zi_Q hown hK hP 0 rfl rfl 9 (by decide) (htz _ zq_70) (fun _ h9 => h9) rfl zd_Q_hasWorker_6 ?_
    refine lv_icmp_ge (tgt := 16) hx hb zd_Q_hasWorker_9 (by decide) (fun c2_ => ?_) (fun c2_ => ?_)
    · have hno9 := z_big (n := cr) (by omega) c2_
      refine lv_iconst (v := (nI 0)) hx hb zd_Q_hasWorker_16 (by decide) ?_
      exact z_zret hx hb hr hlocks hP hK hD hS zd_Q_hasWorker_17 (by decide) (by decide) rfl (Or.inr ⟨rfl, rfl, hno9⟩)
    · obtain ⟨j9, hj9, ej9⟩ := z_has (n := cr) (by omega) h0_ c2_
      refine lv_iconst (v := (nI 1)) hx hb zd_Q_hasWorker_12 (by decide) ?_
      refine lv_goto (tgt := 17) hx hb zd_Q_hasWorker_13 (by decide) ?_
      exact z_zret hx hb hr hlocks hP hK hD hS zd_Q_hasWorker_17 (by decide) (by decide) rfl (Or.inl ⟨j9, rfl, rfl, hj9, ej9⟩)
set_option maxHeartbeats 4000000 in
set_option maxRecDepth 100000 in
/--  -/
theorem k_Race_hasWorker_k (l : Launch) (dC : Nat → ClassId) (dI : Nat → Nat → Nat) (cI cJ cZ : ClassId) (ra : Nat) (hp : Nat) (ah : Nat) (am : Nat) (at_ : Nat) (asp : Nat) (afa : Nat) (ado : Nat) (adt : Nat) (aor : Nat) (cr : Nat) (ho : Nat) (nx : Nat) (ba : Nat) (pl : Nat) (tk : Nat) (rr : Int64) (j : Nat) (hc : cr ≤ 16) (hj : j < cr) (sz : Nat) : zMi l zy_Q_hasWorker zw_Q_hasWorker ({ frames := 0, cells := 0, slots := 0, locals := 0 }) [.ref ra, .int (nI j)] (dC, dI) zcl [(cI, .int), (cJ, .long), (cZ, .boolean)] [(ra, .inr (1, [.ref hp, .ref ah, .ref am, .ref at_, .ref asp, .ref afa, .ref ado, .ref adt, .ref aor, .int (nI cr), .int (nI ho), .int (nI nx), .int (nI ba), .int (nI pl), .int (nI tk), .long rr]))] sz (fun (r : Int32) (u : va_W) => r = nI 1 ∧ u = [(ra, .inr (1, [.ref hp, .ref ah, .ref am, .ref at_, .ref asp, .ref afa, .ref ado, .ref adt, .ref aor, .int (nI cr), .int (nI ho), .int (nI nx), .int (nI ba), .int (nI pl), .int (nI tk), .long rr]))]) := by
  refine z_ofi (cc := zc_Q_hasWorker) (maxL := 2) (ret := (some .boolean)) (by decide) rfl (Nat.le_of_ble_eq_true rfl) ?_
  intro p e s m below meth c A ls hx hb hr hml hown htz hlocks hin hA hP hK hD hS hl
  have hown : s.vm.findClass zR_Q = some m.cls := hown
  have hl : lv_has ls 2 [(0, .ref ra), (1, .int (nI j))] := hl
  refine lv_iload_n hx hb zd_Q_hasWorker_0 rfl (lv_at hl 1 rfl) ?_
  refine lv_if_lt (tgt := 16) hx hb zd_Q_hasWorker_1 (by decide) (fun c1_ => absurd c1_ (nI_pos (by omega))) (fun c1_ => ?_)
  refine lv_iload_n hx hb zd_Q_hasWorker_4 rfl (lv_at hl 1 rfl) ?_
  refine lv_aload_n hx hb zd_Q_hasWorker_5 rfl (lv_at hl 0 rfl) ?_
  refine va_get (D := (dC, dI)) (ci := 1) (v := .int (nI cr)) (C := zR_Q) (T := zF_Q) (N := 16) hx hb htz zi_Q hown hK hP 0 rfl rfl 9 (by decide) (htz _ zq_70) (fun _ h9 => h9) rfl zd_Q_hasWorker_6 ?_
  refine lv_icmp_ge (tgt := 16) hx hb zd_Q_hasWorker_9 (by decide) (fun c2_ => absurd c2_ (nI_ge hj (by omega))) (fun c2_ => ?_)
  refine lv_iconst (v := (nI 1)) hx hb zd_Q_hasWorker_12 (by decide) ?_
  refine lv_goto (tgt := 17) hx hb zd_Q_hasWorker_13 (by decide) ?_
  exact z_zret hx hb hr hlocks hP hK hD hS zd_Q_hasWorker_17 (by decide) (by decide) rfl ⟨rfl, rfl⟩
set_option maxHeartbeats 4000000 in
set_option maxRecDepth 100000 in
/--  -/
theorem k_Race_hasPlace (l : Launch) (dC : Nat → ClassId) (dI : Nat → Nat → Nat) (cI cJ cZ : ClassId) (ra : Nat) (hp : Nat) (ah : Nat) (am : Nat) (at_ : Nat) (asp : Nat) (afa : Nat) (ado : Nat) (adt : Nat) (aor : Nat) (cr : Nat) (ho : Nat) (nx : Nat) (ba : Nat) (pl : Nat) (tk : Nat) (rr : Int64) (sh : Int32) (hpl : pl ≤ 16) (sz : Nat) : zMi l zy_Q_hasPlace zw_Q_hasPlace ({ frames := 0, cells := 0, slots := 0, locals := 0 }) [.ref ra, .int sh] (dC, dI) zcl [(cI, .int), (cJ, .long), (cZ, .boolean)] [(ra, .inr (1, [.ref hp, .ref ah, .ref am, .ref at_, .ref asp, .ref afa, .ref ado, .ref adt, .ref aor, .int (nI cr), .int (nI ho), .int (nI nx), .int (nI ba), .int (nI pl), .int (nI tk), .long rr]))] sz (fun (r : Int32) (u : va_W) => (∃ (j : Nat), r = nI 1 ∧ u = [(ra, .inr (1, [.ref hp, .ref ah, .ref am, .ref at_, .ref asp, .ref afa, .ref ado, .ref adt, .ref aor, .int (nI cr), .int (nI ho), .int (nI nx), .int (nI ba), .int (nI pl), .int (nI tk), .long rr]))] ∧ j < pl ∧ sh = nI j) ∨ (r = nI 0 ∧ u = [(ra, .inr (1, [.ref hp, .ref ah, .ref am, .ref at_, .ref asp, .ref afa, .ref ado, .ref adt, .ref aor, .int (nI cr), .int (nI ho), .int (nI nx), .int (nI ba), .int (nI pl), .int (nI tk), .long rr]))] ∧ (∀ j, j < pl → sh ≠ nI j))) := by
  refine z_ofi (cc := zc_Q_hasPlace) (maxL := 2) (ret := (some .boolean)) (by decide) rfl (Nat.le_of_ble_eq_true rfl) ?_
  intro p e s m below meth c A ls hx hb hr hml hown htz hlocks hin hA hP hK hD hS hl
  have hown : s.vm.findClass zR_Q = some m.cls := hown
  have hl : lv_has ls 2 [(0, .ref ra), (1, .int sh)] := hl
  refine lv_iload_n hx hb zd_Q_hasPlace_0 rfl (lv_at hl 1 rfl) ?_
  refine lv_if_lt (tgt := 16) hx hb zd_Q_hasPlace_1 (by decide) (fun c1_ => ?_) (fun c1_ => ?_)
  · have hno9 := z_neg (n := pl) (by omega) c1_
    refine lv_iconst (v := (nI 0)) hx hb zd_Q_hasPlace_16 (by decide) ?_
    exact z_zret hx hb hr hlocks hP hK hD hS zd_Q_hasPlace_17 (by decide) (by decide) rfl (Or.inr ⟨rfl, rfl, hno9⟩)
  · have h0_ := c1_
    refine lv_iload_n hx hb zd_Q_hasPlace_4 rfl (lv_at hl 1 rfl) ?_
    refine lv_aload_n hx hb zd_Q_hasPlace_5 rfl (lv_at hl 0 rfl) ?_
    refine va_get (D := (dC, dI)) (ci := 1) (v := .int (nI pl)) (C := zR_Q) (T := zF_Q) (N := 16) hx hb htz zi_Q hown hK hP 0 rfl rfl 13 (by decide) (htz _ zq_74) (fun _ h9 => h9) rfl zd_Q_hasPlace_6 ?_
    refine lv_icmp_ge (tgt := 16) hx hb zd_Q_hasPlace_9 (by decide) (fun c2_ => ?_) (fun c2_ => ?_)
    · have hno9 := z_big (n := pl) (by omega) c2_
      refine lv_iconst (v := (nI 0)) hx hb zd_Q_hasPlace_16 (by decide) ?_
      exact z_zret hx hb hr hlocks hP hK hD hS zd_Q_hasPlace_17 (by decide) (by decide) rfl (Or.inr ⟨rfl, rfl, hno9⟩)
    · obtain ⟨j9, hj9, ej9⟩ := z_has (n := pl) (by omega) h0_ c2_
      refine lv_iconst (v := (nI 1)) hx hb zd_Q_hasPlace_12 (by decide) ?_
      refine lv_goto (tgt := 17) hx hb zd_Q_hasPlace_13 (by decide) ?_
      exact z_zret hx hb hr hlocks hP hK hD hS zd_Q_hasPlace_17 (by decide) (by decide) rfl (Or.inl ⟨j9, rfl, rfl, hj9, ej9⟩)
set_option maxHeartbeats 4000000 in
set_option maxRecDepth 100000 in
/--  -/
theorem k_Race_hasPlace_k (l : Launch) (dC : Nat → ClassId) (dI : Nat → Nat → Nat) (cI cJ cZ : ClassId) (ra : Nat) (hp : Nat) (ah : Nat) (am : Nat) (at_ : Nat) (asp : Nat) (afa : Nat) (ado : Nat) (adt : Nat) (aor : Nat) (cr : Nat) (ho : Nat) (nx : Nat) (ba : Nat) (pl : Nat) (tk : Nat) (rr : Int64) (j : Nat) (hpl : pl ≤ 16) (hj : j < pl) (sz : Nat) : zMi l zy_Q_hasPlace zw_Q_hasPlace ({ frames := 0, cells := 0, slots := 0, locals := 0 }) [.ref ra, .int (nI j)] (dC, dI) zcl [(cI, .int), (cJ, .long), (cZ, .boolean)] [(ra, .inr (1, [.ref hp, .ref ah, .ref am, .ref at_, .ref asp, .ref afa, .ref ado, .ref adt, .ref aor, .int (nI cr), .int (nI ho), .int (nI nx), .int (nI ba), .int (nI pl), .int (nI tk), .long rr]))] sz (fun (r : Int32) (u : va_W) => r = nI 1 ∧ u = [(ra, .inr (1, [.ref hp, .ref ah, .ref am, .ref at_, .ref asp, .ref afa, .ref ado, .ref adt, .ref aor, .int (nI cr), .int (nI ho), .int (nI nx), .int (nI ba), .int (nI pl), .int (nI tk), .long rr]))]) := by
  refine z_ofi (cc := zc_Q_hasPlace) (maxL := 2) (ret := (some .boolean)) (by decide) rfl (Nat.le_of_ble_eq_true rfl) ?_
  intro p e s m below meth c A ls hx hb hr hml hown htz hlocks hin hA hP hK hD hS hl
  have hown : s.vm.findClass zR_Q = some m.cls := hown
  have hl : lv_has ls 2 [(0, .ref ra), (1, .int (nI j))] := hl
  refine lv_iload_n hx hb zd_Q_hasPlace_0 rfl (lv_at hl 1 rfl) ?_
  refine lv_if_lt (tgt := 16) hx hb zd_Q_hasPlace_1 (by decide) (fun c1_ => absurd c1_ (nI_pos (by omega))) (fun c1_ => ?_)
  refine lv_iload_n hx hb zd_Q_hasPlace_4 rfl (lv_at hl 1 rfl) ?_
  refine lv_aload_n hx hb zd_Q_hasPlace_5 rfl (lv_at hl 0 rfl) ?_
  refine va_get (D := (dC, dI)) (ci := 1) (v := .int (nI pl)) (C := zR_Q) (T := zF_Q) (N := 16) hx hb htz zi_Q hown hK hP 0 rfl rfl 13 (by decide) (htz _ zq_74) (fun _ h9 => h9) rfl zd_Q_hasPlace_6 ?_
  refine lv_icmp_ge (tgt := 16) hx hb zd_Q_hasPlace_9 (by decide) (fun c2_ => absurd c2_ (nI_ge hj (by omega))) (fun c2_ => ?_)
  refine lv_iconst (v := (nI 1)) hx hb zd_Q_hasPlace_12 (by decide) ?_
  refine lv_goto (tgt := 17) hx hb zd_Q_hasPlace_13 (by decide) ?_
  exact z_zret hx hb hr hlocks hP hK hD hS zd_Q_hasPlace_17 (by decide) (by decide) rfl ⟨rfl, rfl⟩
set_option maxHeartbeats 4000000 in
set_option maxRecDepth 100000 in
/--  -/
theorem k_Race_someShareWaits (l : Launch) (dC : Nat → ClassId) (dI : Nat → Nat → Nat) (cI cJ cZ : ClassId) (ra : Nat) (hp : Nat) (ah : Nat) (am : Nat) (at_ : Nat) (asp : Nat) (afa : Nat) (ado : Nat) (adt : Nat) (aor : Nat) (cr : Nat) (ho : Nat) (nx : Nat) (ba : Nat) (pl : Nat) (tk : Nat) (rr : Int64) (hnx : nx ≤ 16) (hba : ba ≤ 16) (sz : Nat) : zMi l zy_Q_someShareWaits zw_Q_someShareWaits ({ frames := 0, cells := 0, slots := 0, locals := 0 }) [.ref ra] (dC, dI) zcl [(cI, .int), (cJ, .long), (cZ, .boolean)] [(ra, .inr (1, [.ref hp, .ref ah, .ref am, .ref at_, .ref asp, .ref afa, .ref ado, .ref adt, .ref aor, .int (nI cr), .int (nI ho), .int (nI nx), .int (nI ba), .int (nI pl), .int (nI tk), .long rr]))] sz (fun (r : Int32) (u : va_W) => (r = nI 1 ∧ u = [(ra, .inr (1, [.ref hp, .ref ah, .ref am, .ref at_, .ref asp, .ref afa, .ref ado, .ref adt, .ref aor, .int (nI cr), .int (nI ho), .int (nI nx), .int (nI ba), .int (nI pl), .int (nI tk), .long rr]))] ∧ nx < ba) ∨ (r = nI 0 ∧ u = [(ra, .inr (1, [.ref hp, .ref ah, .ref am, .ref at_, .ref asp, .ref afa, .ref ado, .ref adt, .ref aor, .int (nI cr), .int (nI ho), .int (nI nx), .int (nI ba), .int (nI pl), .int (nI tk), .long rr]))] ∧ ba ≤ nx)) := by
  refine z_ofi (cc := zc_Q_someShareWaits) (maxL := 1) (ret := (some .boolean)) (by decide) rfl (Nat.le_of_ble_eq_true rfl) ?_
  intro p e s m below meth c A ls hx hb hr hml hown htz hlocks hin hA hP hK hD hS hl
  have hown : s.vm.findClass zR_Q = some m.cls := hown
  have hl : lv_has ls 1 [(0, .ref ra)] := hl
  refine lv_aload_n hx hb zd_Q_someShareWaits_0 rfl (lv_at hl 0 rfl) ?_
  refine va_get (D := (dC, dI)) (ci := 1) (v := .int (nI nx)) (C := zR_Q) (T := zF_Q) (N := 16) hx hb htz zi_Q hown hK hP 0 rfl rfl 11 (by decide) (htz _ zq_72) (fun _ h9 => h9) rfl zd_Q_someShareWaits_1 ?_
  refine lv_aload_n hx hb zd_Q_someShareWaits_4 rfl (lv_at hl 0 rfl) ?_
  refine va_get (D := (dC, dI)) (ci := 1) (v := .int (nI ba)) (C := zR_Q) (T := zF_Q) (N := 16) hx hb htz zi_Q hown hK hP 0 rfl rfl 12 (by decide) (htz _ zq_73) (fun _ h9 => h9) rfl zd_Q_someShareWaits_5 ?_
  refine lv_icmp_ge (tgt := 15) hx hb zd_Q_someShareWaits_8 (by decide) (fun c1_ => ?_) (fun c1_ => ?_)
  · have hw9 : ba ≤ nx := Nat.le_of_not_lt (fun h => nI_ge h (by omega) c1_)
    refine lv_iconst (v := (nI 0)) hx hb zd_Q_someShareWaits_15 (by decide) ?_
    exact z_zret hx hb hr hlocks hP hK hD hS zd_Q_someShareWaits_16 (by decide) (by decide) rfl (Or.inr ⟨rfl, rfl, hw9⟩)
  · have hw9 : nx < ba := Nat.lt_of_not_le (fun h => c1_ (nI_le h (by omega)))
    refine lv_iconst (v := (nI 1)) hx hb zd_Q_someShareWaits_11 (by decide) ?_
    refine lv_goto (tgt := 16) hx hb zd_Q_someShareWaits_12 (by decide) ?_
    exact z_zret hx hb hr hlocks hP hK hD hS zd_Q_someShareWaits_16 (by decide) (by decide) rfl (Or.inl ⟨rfl, rfl, hw9⟩)
set_option maxHeartbeats 4000000 in
set_option maxRecDepth 100000 in
/--  -/
theorem k_Race_movers (l : Launch) (dC : Nat → ClassId) (dI : Nat → Nat → Nat) (cI cJ cZ : ClassId) (ra : Nat) (hp : Nat) (ah : Nat) (am : Nat) (at_ : Nat) (asp : Nat) (afa : Nat) (ado : Nat) (adt : Nat) (aor : Nat) (cr : Nat) (ho : Nat) (nx : Nat) (ba : Nat) (pl : Nat) (tk : Nat) (rr : Int64) (hnx : nx ≤ 16) (hba : ba ≤ 16) (sz : Nat) : zMi l zy_Q_movers zw_Q_movers ({ frames := 1, cells := 0, slots := 0, locals := 20 }) [.ref ra] (dC, dI) zcl [(cI, .int), (cJ, .long), (cZ, .boolean)] [(ra, .inr (1, [.ref hp, .ref ah, .ref am, .ref at_, .ref asp, .ref afa, .ref ado, .ref adt, .ref aor, .int (nI cr), .int (nI ho), .int (nI nx), .int (nI ba), .int (nI pl), .int (nI tk), .long rr]))] sz (fun (r : Int32) (u : va_W) => r = nI (zmvs cr ho nx ba) ∧ u = [(ra, .inr (1, [.ref hp, .ref ah, .ref am, .ref at_, .ref asp, .ref afa, .ref ado, .ref adt, .ref aor, .int (nI cr), .int (nI ho), .int (nI nx), .int (nI ba), .int (nI pl), .int (nI tk), .long rr]))]) := by
  refine z_ofi (cc := zc_Q_movers) (maxL := 1) (ret := (some .int)) (by decide) rfl (Nat.le_of_ble_eq_true rfl) ?_
  intro p e s m below meth c A ls hx hb hr hml hown htz hlocks hin hA hP hK hD hS hl
  have hown : s.vm.findClass zR_Q = some m.cls := hown
  have hl : lv_has ls 1 [(0, .ref ra)] := hl
  refine lv_aload_n hx hb zd_Q_movers_0 rfl (lv_at hl 0 rfl) ?_
  refine z_Vi (As := []) (rest := []) (wc := [(ra, .inr (1, [.ref hp, .ref ah, .ref am, .ref at_, .ref asp, .ref afa, .ref ado, .ref adt, .ref aor, .int (nI cr), .int (nI ho), .int (nI nx), .int (nI ba), .int (nI pl), .int (nI tk), .long rr]))]) (wr := []) ⟨hx, hb, hml, hown, htz⟩ hK hP hD hS hA (k_Race_someShareWaits l dC dI cI cJ cZ ra hp ah am at_ asp afa ado adt aor cr ho nx ba pl tk rr (by first | assumption | omega) (by first | assumption | omega) s.heap.size) (zcwV 0 htz zq_281 zq_278 zq_280 zp_4 zq_5 (by decide +kernel) ⟨Nat.le_of_ble_eq_true rfl, Nat.le_of_ble_eq_true rfl⟩) 0 1 rfl rfl [0] [] rfl rfl rfl (by decide) rfl hl.1 rfl (Nat.le_of_ble_eq_true rfl) zd_Q_movers_1 ⟨Nat.le_of_ble_eq_true rfl, Nat.le_of_ble_eq_true rfl⟩ (fun r u H locs hw hP hD hS => ?_)
  rcases hw with ⟨rfl, rfl, hw1_⟩ | ⟨rfl, rfl, hw2_⟩
  · have hP : va_P (dC, dI) zcl [(ra, .inr (1, [.ref hp, .ref ah, .ref am, .ref at_, .ref asp, .ref afa, .ref ado, .ref adt, .ref aor, .int (nI cr), .int (nI ho), .int (nI nx), .int (nI ba), .int (nI pl), .int (nI tk), .long rr]))] H := hP
    have hD : va_D A [(ra, .inr (1, [.ref hp, .ref ah, .ref am, .ref at_, .ref asp, .ref afa, .ref ado, .ref adt, .ref aor, .int (nI cr), .int (nI ho), .int (nI nx), .int (nI ba), .int (nI pl), .int (nI tk), .long rr]))] := hD
    have hw9 := hw1_
    refine lv_if_eq (tgt := 14) hx hb zd_Q_movers_4 (by decide) (fun c3_ => absurd c3_ (by decide)) (fun _ => ?_)
    refine lv_aload_n hx hb zd_Q_movers_7 rfl (lv_at hl 0 rfl) ?_
    refine va_get (D := (dC, dI)) (ci := 1) (v := .int (nI cr)) (C := zR_Q) (T := zF_Q) (N := 16) hx hb htz zi_Q hown hK hP 0 rfl rfl 9 (by decide) (htz _ zq_70) (fun _ h9 => h9) rfl zd_Q_movers_8 ?_
    refine lv_goto (tgt := 18) hx hb zd_Q_movers_11 (by decide) ?_
    exact z_iret hx hb hr hlocks hP hK hD hS zd_Q_movers_18 (by decide) (by decide) ⟨by rw [zmvs, if_pos hw9], rfl⟩
  · have hP : va_P (dC, dI) zcl [(ra, .inr (1, [.ref hp, .ref ah, .ref am, .ref at_, .ref asp, .ref afa, .ref ado, .ref adt, .ref aor, .int (nI cr), .int (nI ho), .int (nI nx), .int (nI ba), .int (nI pl), .int (nI tk), .long rr]))] H := hP
    have hD : va_D A [(ra, .inr (1, [.ref hp, .ref ah, .ref am, .ref at_, .ref asp, .ref afa, .ref ado, .ref adt, .ref aor, .int (nI cr), .int (nI ho), .int (nI nx), .int (nI ba), .int (nI pl), .int (nI tk), .long rr]))] := hD
    have hw9 := hw2_
    refine lv_if_eq (tgt := 14) hx hb zd_Q_movers_4 (by decide) (fun _ => ?_) (fun c4_ => absurd (by decide) c4_)
    refine lv_aload_n hx hb zd_Q_movers_14 rfl (lv_at hl 0 rfl) ?_
    refine va_get (D := (dC, dI)) (ci := 1) (v := .int (nI ho)) (C := zR_Q) (T := zF_Q) (N := 16) hx hb htz zi_Q hown hK hP 0 rfl rfl 10 (by decide) (htz _ zq_71) (fun _ h9 => h9) rfl zd_Q_movers_15 ?_
    exact z_iret hx hb hr hlocks hP hK hD hS zd_Q_movers_18 (by decide) (by decide) ⟨by rw [zmvs, if_neg (Nat.not_lt.mpr hw9)], rfl⟩
set_option maxHeartbeats 4000000 in
set_option maxRecDepth 100000 in
/--  -/
theorem k_Race_allTicks (l : Launch) (dC : Nat → ClassId) (dI : Nat → Nat → Nat) (cI cJ cZ : ClassId) (ra : Nat) (hp : Nat) (ah : Nat) (am : Nat) (at_ : Nat) (asp : Nat) (afa : Nat) (ado : Nat) (adt : Nat) (aor : Nat) (cr : Nat) (ho : Nat) (nx : Nat) (ba : Nat) (pl : Nat) (tk : Nat) (rr : Int64)  (sz : Nat) : zMi l zy_Q_allTicks zw_Q_allTicks ({ frames := 0, cells := 0, slots := 0, locals := 0 }) [.ref ra] (dC, dI) zcl [(cI, .int), (cJ, .long), (cZ, .boolean)] [(ra, .inr (1, [.ref hp, .ref ah, .ref am, .ref at_, .ref asp, .ref afa, .ref ado, .ref adt, .ref aor, .int (nI cr), .int (nI ho), .int (nI nx), .int (nI ba), .int (nI pl), .int (nI tk), .long rr]))] sz (fun (r : Int32) (u : va_W) => r = nI tk ∧ u = [(ra, .inr (1, [.ref hp, .ref ah, .ref am, .ref at_, .ref asp, .ref afa, .ref ado, .ref adt, .ref aor, .int (nI cr), .int (nI ho), .int (nI nx), .int (nI ba), .int (nI pl), .int (nI tk), .long rr]))]) := by
  refine z_ofi (cc := zc_Q_allTicks) (maxL := 1) (ret := (some .int)) (by decide) rfl (Nat.le_of_ble_eq_true rfl) ?_
  intro p e s m below meth c A ls hx hb hr hml hown htz hlocks hin hA hP hK hD hS hl
  have hown : s.vm.findClass zR_Q = some m.cls := hown
  have hl : lv_has ls 1 [(0, .ref ra)] := hl
  refine lv_aload_n hx hb zd_Q_allTicks_0 rfl (lv_at hl 0 rfl) ?_
  refine va_get (D := (dC, dI)) (ci := 1) (v := .int (nI tk)) (C := zR_Q) (T := zF_Q) (N := 16) hx hb htz zi_Q hown hK hP 0 rfl rfl 14 (by decide) (htz _ zq_75) (fun _ h9 => h9) rfl zd_Q_allTicks_1 ?_
  exact z_iret hx hb hr hlocks hP hK hD hS zd_Q_allTicks_4 (by decide) (by decide) ⟨rfl, rfl⟩
set_option maxHeartbeats 4000000 in
set_option maxRecDepth 100000 in
/--  -/
theorem k_Race_letGo_k (l : Launch) (dC : Nat → ClassId) (dI : Nat → Nat → Nat) (cI cJ cZ : ClassId) (ra : Nat) (hp : Nat) (ah : Nat) (am : Nat) (at_ : Nat) (asp : Nat) (afa : Nat) (ado : Nat) (adt : Nat) (aor : Nat) (cr : Nat) (ho : Nat) (nx : Nat) (ba : Nat) (pl : Nat) (tk : Nat) (rr : Int64) (hd : Nat → Int32) (j : Nat) (hc : cr ≤ 16) (hj : j < cr) (hh : ho = zcnt hd cr) (sz : Nat) : zMv l zy_Q_letGo zw_Q_letGo ({ frames := 1, cells := 0, slots := 0, locals := 21 }) [.ref ra, .int (nI j)] (dC, dI) zcl [(cI, .int), (cJ, .long), (cZ, .boolean)] [(ra, .inr (1, [.ref hp, .ref ah, .ref am, .ref at_, .ref asp, .ref afa, .ref ado, .ref adt, .ref aor, .int (nI cr), .int (nI ho), .int (nI nx), .int (nI ba), .int (nI pl), .int (nI tk), .long rr])), (ah, .inl (cI, 16, .inl hd))] sz (fun (u : va_W) => ∃ (h2 : Nat) (h9 : Nat → Int32), u = [(ra, .inr (1, [.ref hp, .ref ah, .ref am, .ref at_, .ref asp, .ref afa, .ref ado, .ref adt, .ref aor, .int (nI cr), .int (nI h2), .int (nI nx), .int (nI ba), .int (nI pl), .int (nI tk), .long rr])), (ah, .inl (cI, 16, .inl h9))] ∧ h9 = upd hd j (-1) ∧ h2 = zcnt h9 cr) := by
  refine z_ofv (cc := zc_Q_letGo) (maxL := 2) (ret := none) (by decide) rfl (Nat.le_of_ble_eq_true rfl) ?_
  intro p e s m below meth c A ls hx hb hr hml hown htz hlocks hin hA hP hK hD hS hl
  have hown : s.vm.findClass zR_Q = some m.cls := hown
  have hl : lv_has ls 2 [(0, .ref ra), (1, .int (nI j))] := hl
  refine lv_aload_n hx hb zd_Q_letGo_0 rfl (lv_at hl 0 rfl) ?_
  refine lv_iload_n hx hb zd_Q_letGo_1 rfl (lv_at hl 1 rfl) ?_
  refine z_Vi (As := [.int (nI j)]) (rest := []) (wc := [(ra, .inr (1, [.ref hp, .ref ah, .ref am, .ref at_, .ref asp, .ref afa, .ref ado, .ref adt, .ref aor, .int (nI cr), .int (nI ho), .int (nI nx), .int (nI ba), .int (nI pl), .int (nI tk), .long rr]))]) (wr := [(ah, .inl (cI, 16, .inl hd))]) ⟨hx, hb, hml, hown, htz⟩ hK hP hD hS hA (k_Race_hasWorker_k l dC dI cI cJ cZ ra hp ah am at_ asp afa ado adt aor cr ho nx ba pl tk rr j (by first | assumption | omega) (by first | assumption | omega) s.heap.size) (zcwV 1 htz zq_295 zq_292 zq_293 zq_294 zq_5 (by decide +kernel) ⟨Nat.le_of_ble_eq_true rfl, Nat.le_of_ble_eq_true rfl⟩) 0 1 rfl rfl [0] [1] rfl rfl rfl (by decide) rfl hl.1 rfl (Nat.le_of_ble_eq_true rfl) zd_Q_letGo_2 ⟨Nat.le_of_ble_eq_true rfl, Nat.le_of_ble_eq_true rfl⟩ (fun r u H locs hw hP hD hS => ?_)
  obtain ⟨rfl, rfl⟩ := hw
  have hP : va_P (dC, dI) zcl [(ah, .inl (cI, 16, .inl hd)), (ra, .inr (1, [.ref hp, .ref ah, .ref am, .ref at_, .ref asp, .ref afa, .ref ado, .ref adt, .ref aor, .int (nI cr), .int (nI ho), .int (nI nx), .int (nI ba), .int (nI pl), .int (nI tk), .long rr]))] H := hP
  have hD : va_D A [(ah, .inl (cI, 16, .inl hd)), (ra, .inr (1, [.ref hp, .ref ah, .ref am, .ref at_, .ref asp, .ref afa, .ref ado, .ref adt, .ref aor, .int (nI cr), .int (nI ho), .int (nI nx), .int (nI ba), .int (nI pl), .int (nI tk), .long rr]))] := hD
  refine lv_if_eq (tgt := 35) hx hb zd_Q_letGo_5 (by decide) (fun c1_ => absurd c1_ (by decide)) (fun _ => ?_)
  refine lv_aload_n hx hb zd_Q_letGo_8 rfl (lv_at hl 0 rfl) ?_
  refine va_get (D := (dC, dI)) (ci := 1) (v := .ref ah) (C := zR_Q) (T := zF_Q) (N := 16) hx hb htz zi_Q hown hK hP 1 rfl rfl 1 (by decide) (htz _ zq_62) (fun _ h9 => h9) rfl zd_Q_letGo_9 ?_
  refine lv_iload_n hx hb zd_Q_letGo_12 rfl (lv_at hl 1 rfl) ?_
  refine z_iald hx hb hK hP 0 0 rfl rfl (j := j) (by omega) (by decide) zd_Q_letGo_13 ?_
  refine lv_iconst (v := (-1)) hx hb zd_Q_letGo_14 (by decide) ?_
  refine lv_icmp_eq (tgt := 35) hx hb zd_Q_letGo_15 (by decide) (fun c2_ => ?_) (fun c2_ => ?_)
  · have eu : upd hd j (-1) = hd := z_updself c2_
    have hP := hP.sub (ws' := [(ra, .inr (1, [.ref hp, .ref ah, .ref am, .ref at_, .ref asp, .ref afa, .ref ado, .ref adt, .ref aor, .int (nI cr), .int (nI ho), .int (nI nx), .int (nI ba), .int (nI pl), .int (nI tk), .long rr])), (ah, .inl (cI, 16, .inl hd))]) [1, 0] rfl
    have hD := hD.sub (ws' := [(ra, .inr (1, [.ref hp, .ref ah, .ref am, .ref at_, .ref asp, .ref afa, .ref ado, .ref adt, .ref aor, .int (nI cr), .int (nI ho), .int (nI nx), .int (nI ba), .int (nI pl), .int (nI tk), .long rr])), (ah, .inl (cI, 16, .inl hd))]) [1, 0] (by decide) rfl
    exact z_vret hx hb hr hlocks hP hK hD hS zd_Q_letGo_35 (by decide) (by decide) ⟨ho, hd, rfl, eu.symm, hh⟩
  · have c_off : hd j ≠ -1 := c2_
    refine lv_aload_n hx hb zd_Q_letGo_18 rfl (lv_at hl 0 rfl) ?_
    refine va_get (D := (dC, dI)) (ci := 1) (v := .ref ah) (C := zR_Q) (T := zF_Q) (N := 16) hx hb htz zi_Q hown hK hP 1 rfl rfl 1 (by decide) (htz _ zq_62) (fun _ h9 => h9) rfl zd_Q_letGo_19 ?_
    refine lv_iload_n hx hb zd_Q_letGo_22 rfl (lv_at hl 1 rfl) ?_
    refine lv_iconst (v := (-1)) hx hb zd_Q_letGo_23 (by decide) ?_
    refine z_iast hx hb hK hP hD hS 0 0 rfl rfl (j := j) (by omega) (by decide) zd_Q_letGo_24 (fun H locs hP hD hS => ?_)
    have hP : va_P (dC, dI) zcl [(ah, .inl (cI, 16, .inl (upd hd j (-1)))), (ra, .inr (1, [.ref hp, .ref ah, .ref am, .ref at_, .ref asp, .ref afa, .ref ado, .ref adt, .ref aor, .int (nI cr), .int (nI ho), .int (nI nx), .int (nI ba), .int (nI pl), .int (nI tk), .long rr]))] H := hP
    have hD : va_D A [(ah, .inl (cI, 16, .inl (upd hd j (-1)))), (ra, .inr (1, [.ref hp, .ref ah, .ref am, .ref at_, .ref asp, .ref afa, .ref ado, .ref adt, .ref aor, .int (nI cr), .int (nI ho), .int (nI nx), .int (nI ba), .int (nI pl), .int (nI tk), .long rr]))] := hD
    refine lv_aload_n hx hb zd_Q_letGo_25 rfl (lv_at hl 0 rfl) ?_
    refine lv_dup hx hb zd_Q_letGo_26 rfl ?_
    refine va_get (D := (dC, dI)) (ci := 1) (v := .int (nI ho)) (C := zR_Q) (T := zF_Q) (N := 16) hx hb htz zi_Q hown hK hP 1 rfl rfl 10 (by decide) (htz _ zq_71) (fun _ h9 => h9) rfl zd_Q_letGo_27 ?_
    refine lv_iconst (v := (nI 1)) hx hb zd_Q_letGo_30 (by decide) ?_
    refine lv_isub hx hb zd_Q_letGo_31 ?_
    have hz9 := zcnt_off cr hj c_off
    refine z_topi (y := nI (ho - 1)) (pk_sub (by omega)) ?_
    refine va_put (D := (dC, dI)) (ci := 1) (v := .int (nI (ho - 1))) (ty := .int) (C := zR_Q) (T := zF_Q) (N := 16) hx hb htz zi_Q zt_Q zt_Q_ok zn_Q hown hK hP hD hS 1 rfl rfl 10 (by decide) (htz _ zq_71) (fun _ h9 => h9) rfl (by decide +kernel) rfl rfl (Nat.le_of_ble_eq_true rfl) zd_Q_letGo_32 (fun H locs hP hD hS => ?_)
    have hP : va_P (dC, dI) zcl [(ah, .inl (cI, 16, .inl (upd hd j (-1)))), (ra, .inr (1, [.ref hp, .ref ah, .ref am, .ref at_, .ref asp, .ref afa, .ref ado, .ref adt, .ref aor, .int (nI cr), .int (nI (ho - 1)), .int (nI nx), .int (nI ba), .int (nI pl), .int (nI tk), .long rr]))] H := hP
    have hD : va_D A [(ah, .inl (cI, 16, .inl (upd hd j (-1)))), (ra, .inr (1, [.ref hp, .ref ah, .ref am, .ref at_, .ref asp, .ref afa, .ref ado, .ref adt, .ref aor, .int (nI cr), .int (nI (ho - 1)), .int (nI nx), .int (nI ba), .int (nI pl), .int (nI tk), .long rr]))] := hD
    have hP := hP.sub (ws' := [(ra, .inr (1, [.ref hp, .ref ah, .ref am, .ref at_, .ref asp, .ref afa, .ref ado, .ref adt, .ref aor, .int (nI cr), .int (nI (ho - 1)), .int (nI nx), .int (nI ba), .int (nI pl), .int (nI tk), .long rr])), (ah, .inl (cI, 16, .inl (upd hd j (-1))))]) [1, 0] rfl
    have hD := hD.sub (ws' := [(ra, .inr (1, [.ref hp, .ref ah, .ref am, .ref at_, .ref asp, .ref afa, .ref ado, .ref adt, .ref aor, .int (nI cr), .int (nI (ho - 1)), .int (nI nx), .int (nI ba), .int (nI pl), .int (nI tk), .long rr])), (ah, .inl (cI, 16, .inl (upd hd j (-1))))]) [1, 0] (by decide) rfl
    exact z_vret hx hb hr hlocks hP hK hD hS zd_Q_letGo_35 (by decide) (by decide) ⟨ho - 1, _, rfl, rfl, by omega⟩
set_option maxHeartbeats 4000000 in
set_option maxRecDepth 100000 in
/--  -/
theorem k_Race_takeNext_k (l : Launch) (dC : Nat → ClassId) (dI : Nat → Nat → Nat) (cI cJ cZ : ClassId) (ra : Nat) (hp : Nat) (ah : Nat) (am : Nat) (at_ : Nat) (asp : Nat) (afa : Nat) (ado : Nat) (adt : Nat) (aor : Nat) (cr : Nat) (ho : Nat) (nx : Nat) (ba : Nat) (pl : Nat) (tk : Nat) (rr : Int64) (hd : Nat → Int32) (j : Nat) (hc : cr ≤ 16) (hj : j < cr) (hnx : nx ≤ 16) (hba : ba ≤ 16) (hw : nx < ba) (sz : Nat) : zMv l zy_Q_takeNext zw_Q_takeNext ({ frames := 1, cells := 0, slots := 0, locals := 21 }) [.ref ra, .int (nI j)] (dC, dI) zcl [(cI, .int), (cJ, .long), (cZ, .boolean)] [(ra, .inr (1, [.ref hp, .ref ah, .ref am, .ref at_, .ref asp, .ref afa, .ref ado, .ref adt, .ref aor, .int (nI cr), .int (nI ho), .int (nI nx), .int (nI ba), .int (nI pl), .int (nI tk), .long rr])), (ah, .inl (cI, 16, .inl hd))] sz (fun (u : va_W) => u = [(ra, .inr (1, [.ref hp, .ref ah, .ref am, .ref at_, .ref asp, .ref afa, .ref ado, .ref adt, .ref aor, .int (nI cr), .int (nI (ho + 1)), .int (nI (nx + 1)), .int (nI ba), .int (nI pl), .int (nI tk), .long rr])), (ah, .inl (cI, 16, .inl (upd hd j (nI nx))))]) := by
  refine z_ofv (cc := zc_Q_takeNext) (maxL := 2) (ret := none) (by decide) rfl (Nat.le_of_ble_eq_true rfl) ?_
  intro p e s m below meth c A ls hx hb hr hml hown htz hlocks hin hA hP hK hD hS hl
  have hown : s.vm.findClass zR_Q = some m.cls := hown
  have hl : lv_has ls 2 [(0, .ref ra), (1, .int (nI j))] := hl
  refine lv_aload_n hx hb zd_Q_takeNext_0 rfl (lv_at hl 0 rfl) ?_
  refine lv_iload_n hx hb zd_Q_takeNext_1 rfl (lv_at hl 1 rfl) ?_
  refine z_Vi (As := [.int (nI j)]) (rest := []) (wc := [(ra, .inr (1, [.ref hp, .ref ah, .ref am, .ref at_, .ref asp, .ref afa, .ref ado, .ref adt, .ref aor, .int (nI cr), .int (nI ho), .int (nI nx), .int (nI ba), .int (nI pl), .int (nI tk), .long rr]))]) (wr := [(ah, .inl (cI, 16, .inl hd))]) ⟨hx, hb, hml, hown, htz⟩ hK hP hD hS hA (k_Race_hasWorker_k l dC dI cI cJ cZ ra hp ah am at_ asp afa ado adt aor cr ho nx ba pl tk rr j (by first | assumption | omega) (by first | assumption | omega) s.heap.size) (zcwV 1 htz zq_295 zq_292 zq_293 zq_294 zq_5 (by decide +kernel) ⟨Nat.le_of_ble_eq_true rfl, Nat.le_of_ble_eq_true rfl⟩) 0 1 rfl rfl [0] [1] rfl rfl rfl (by decide) rfl hl.1 rfl (Nat.le_of_ble_eq_true rfl) zd_Q_takeNext_2 ⟨Nat.le_of_ble_eq_true rfl, Nat.le_of_ble_eq_true rfl⟩ (fun r u H locs hw hP hD hS => ?_)
  obtain ⟨rfl, rfl⟩ := hw
  have hP : va_P (dC, dI) zcl [(ah, .inl (cI, 16, .inl hd)), (ra, .inr (1, [.ref hp, .ref ah, .ref am, .ref at_, .ref asp, .ref afa, .ref ado, .ref adt, .ref aor, .int (nI cr), .int (nI ho), .int (nI nx), .int (nI ba), .int (nI pl), .int (nI tk), .long rr]))] H := hP
  have hD : va_D A [(ah, .inl (cI, 16, .inl hd)), (ra, .inr (1, [.ref hp, .ref ah, .ref am, .ref at_, .ref asp, .ref afa, .ref ado, .ref adt, .ref aor, .int (nI cr), .int (nI ho), .int (nI nx), .int (nI ba), .int (nI pl), .int (nI tk), .long rr]))] := hD
  refine lv_if_eq (tgt := 45) hx hb zd_Q_takeNext_5 (by decide) (fun c1_ => absurd c1_ (by decide)) (fun _ => ?_)
  refine lv_aload_n hx hb zd_Q_takeNext_8 rfl (lv_at hl 0 rfl) ?_
  refine z_Vi (As := []) (rest := []) (wc := [(ra, .inr (1, [.ref hp, .ref ah, .ref am, .ref at_, .ref asp, .ref afa, .ref ado, .ref adt, .ref aor, .int (nI cr), .int (nI ho), .int (nI nx), .int (nI ba), .int (nI pl), .int (nI tk), .long rr]))]) (wr := [(ah, .inl (cI, 16, .inl hd))]) ⟨hx, hb, hml, hown, htz⟩ hK hP hD hS hA (k_Race_someShareWaits l dC dI cI cJ cZ ra hp ah am at_ asp afa ado adt aor cr ho nx ba pl tk rr (by first | assumption | omega) (by first | assumption | omega) H.size) (zcwV 0 htz zq_281 zq_278 zq_280 zp_4 zq_5 (by decide +kernel) ⟨Nat.le_of_ble_eq_true rfl, Nat.le_of_ble_eq_true rfl⟩) 1 1 rfl rfl [1] [0] rfl rfl rfl (by decide) rfl hl.1 rfl (Nat.le_of_ble_eq_true rfl) zd_Q_takeNext_9 ⟨Nat.le_of_ble_eq_true rfl, Nat.le_of_ble_eq_true rfl⟩ (fun r u H locs hw hP hD hS => ?_)
  rcases hw with ⟨rfl, rfl, hw2_⟩ | ⟨rfl, rfl, hw3_⟩
  · have hP : va_P (dC, dI) zcl [(ah, .inl (cI, 16, .inl hd)), (ra, .inr (1, [.ref hp, .ref ah, .ref am, .ref at_, .ref asp, .ref afa, .ref ado, .ref adt, .ref aor, .int (nI cr), .int (nI ho), .int (nI nx), .int (nI ba), .int (nI pl), .int (nI tk), .long rr]))] H := hP
    have hD : va_D A [(ah, .inl (cI, 16, .inl hd)), (ra, .inr (1, [.ref hp, .ref ah, .ref am, .ref at_, .ref asp, .ref afa, .ref ado, .ref adt, .ref aor, .int (nI cr), .int (nI ho), .int (nI nx), .int (nI ba), .int (nI pl), .int (nI tk), .long rr]))] := hD
    refine lv_if_eq (tgt := 45) hx hb zd_Q_takeNext_12 (by decide) (fun c4_ => absurd c4_ (by decide)) (fun _ => ?_)
    refine lv_aload_n hx hb zd_Q_takeNext_15 rfl (lv_at hl 0 rfl) ?_
    refine va_get (D := (dC, dI)) (ci := 1) (v := .ref ah) (C := zR_Q) (T := zF_Q) (N := 16) hx hb htz zi_Q hown hK hP 1 rfl rfl 1 (by decide) (htz _ zq_62) (fun _ h9 => h9) rfl zd_Q_takeNext_16 ?_
    refine lv_iload_n hx hb zd_Q_takeNext_19 rfl (lv_at hl 1 rfl) ?_
    refine lv_aload_n hx hb zd_Q_takeNext_20 rfl (lv_at hl 0 rfl) ?_
    refine va_get (D := (dC, dI)) (ci := 1) (v := .int (nI nx)) (C := zR_Q) (T := zF_Q) (N := 16) hx hb htz zi_Q hown hK hP 1 rfl rfl 11 (by decide) (htz _ zq_72) (fun _ h9 => h9) rfl zd_Q_takeNext_21 ?_
    refine z_iast hx hb hK hP hD hS 0 0 rfl rfl (j := j) (by omega) (by decide) zd_Q_takeNext_24 (fun H locs hP hD hS => ?_)
    have hP : va_P (dC, dI) zcl [(ah, .inl (cI, 16, .inl (upd hd j (nI nx)))), (ra, .inr (1, [.ref hp, .ref ah, .ref am, .ref at_, .ref asp, .ref afa, .ref ado, .ref adt, .ref aor, .int (nI cr), .int (nI ho), .int (nI nx), .int (nI ba), .int (nI pl), .int (nI tk), .long rr]))] H := hP
    have hD : va_D A [(ah, .inl (cI, 16, .inl (upd hd j (nI nx)))), (ra, .inr (1, [.ref hp, .ref ah, .ref am, .ref at_, .ref asp, .ref afa, .ref ado, .ref adt, .ref aor, .int (nI cr), .int (nI ho), .int (nI nx), .int (nI ba), .int (nI pl), .int (nI tk), .long rr]))] := hD
    refine lv_aload_n hx hb zd_Q_takeNext_25 rfl (lv_at hl 0 rfl) ?_
    refine lv_dup hx hb zd_Q_takeNext_26 rfl ?_
    refine va_get (D := (dC, dI)) (ci := 1) (v := .int (nI ho)) (C := zR_Q) (T := zF_Q) (N := 16) hx hb htz zi_Q hown hK hP 1 rfl rfl 10 (by decide) (htz _ zq_71) (fun _ h9 => h9) rfl zd_Q_takeNext_27 ?_
    refine lv_iconst (v := (nI 1)) hx hb zd_Q_takeNext_30 (by decide) ?_
    refine lv_iadd hx hb zd_Q_takeNext_31 ?_
    refine z_topi (y := (nI (ho + 1))) (nI_add ho 1) ?_
    refine va_put (D := (dC, dI)) (ci := 1) (v := .int (nI (ho + 1))) (ty := .int) (C := zR_Q) (T := zF_Q) (N := 16) hx hb htz zi_Q zt_Q zt_Q_ok zn_Q hown hK hP hD hS 1 rfl rfl 10 (by decide) (htz _ zq_71) (fun _ h9 => h9) rfl (by decide +kernel) rfl rfl (Nat.le_of_ble_eq_true rfl) zd_Q_takeNext_32 (fun H locs hP hD hS => ?_)
    have hP : va_P (dC, dI) zcl [(ah, .inl (cI, 16, .inl (upd hd j (nI nx)))), (ra, .inr (1, [.ref hp, .ref ah, .ref am, .ref at_, .ref asp, .ref afa, .ref ado, .ref adt, .ref aor, .int (nI cr), .int (nI (ho + 1)), .int (nI nx), .int (nI ba), .int (nI pl), .int (nI tk), .long rr]))] H := hP
    have hD : va_D A [(ah, .inl (cI, 16, .inl (upd hd j (nI nx)))), (ra, .inr (1, [.ref hp, .ref ah, .ref am, .ref at_, .ref asp, .ref afa, .ref ado, .ref adt, .ref aor, .int (nI cr), .int (nI (ho + 1)), .int (nI nx), .int (nI ba), .int (nI pl), .int (nI tk), .long rr]))] := hD
    refine lv_aload_n hx hb zd_Q_takeNext_35 rfl (lv_at hl 0 rfl) ?_
    refine lv_dup hx hb zd_Q_takeNext_36 rfl ?_
    refine va_get (D := (dC, dI)) (ci := 1) (v := .int (nI nx)) (C := zR_Q) (T := zF_Q) (N := 16) hx hb htz zi_Q hown hK hP 1 rfl rfl 11 (by decide) (htz _ zq_72) (fun _ h9 => h9) rfl zd_Q_takeNext_37 ?_
    refine lv_iconst (v := (nI 1)) hx hb zd_Q_takeNext_40 (by decide) ?_
    refine lv_iadd hx hb zd_Q_takeNext_41 ?_
    refine z_topi (y := (nI (nx + 1))) (nI_add nx 1) ?_
    refine va_put (D := (dC, dI)) (ci := 1) (v := .int (nI (nx + 1))) (ty := .int) (C := zR_Q) (T := zF_Q) (N := 16) hx hb htz zi_Q zt_Q zt_Q_ok zn_Q hown hK hP hD hS 1 rfl rfl 11 (by decide) (htz _ zq_72) (fun _ h9 => h9) rfl (by decide +kernel) rfl rfl (Nat.le_of_ble_eq_true rfl) zd_Q_takeNext_42 (fun H locs hP hD hS => ?_)
    have hP : va_P (dC, dI) zcl [(ah, .inl (cI, 16, .inl (upd hd j (nI nx)))), (ra, .inr (1, [.ref hp, .ref ah, .ref am, .ref at_, .ref asp, .ref afa, .ref ado, .ref adt, .ref aor, .int (nI cr), .int (nI (ho + 1)), .int (nI (nx + 1)), .int (nI ba), .int (nI pl), .int (nI tk), .long rr]))] H := hP
    have hD : va_D A [(ah, .inl (cI, 16, .inl (upd hd j (nI nx)))), (ra, .inr (1, [.ref hp, .ref ah, .ref am, .ref at_, .ref asp, .ref afa, .ref ado, .ref adt, .ref aor, .int (nI cr), .int (nI (ho + 1)), .int (nI (nx + 1)), .int (nI ba), .int (nI pl), .int (nI tk), .long rr]))] := hD
    have hP := hP.sub (ws' := [(ra, .inr (1, [.ref hp, .ref ah, .ref am, .ref at_, .ref asp, .ref afa, .ref ado, .ref adt, .ref aor, .int (nI cr), .int (nI (ho + 1)), .int (nI (nx + 1)), .int (nI ba), .int (nI pl), .int (nI tk), .long rr])), (ah, .inl (cI, 16, .inl (upd hd j (nI nx))))]) [1, 0] rfl
    have hD := hD.sub (ws' := [(ra, .inr (1, [.ref hp, .ref ah, .ref am, .ref at_, .ref asp, .ref afa, .ref ado, .ref adt, .ref aor, .int (nI cr), .int (nI (ho + 1)), .int (nI (nx + 1)), .int (nI ba), .int (nI pl), .int (nI tk), .long rr])), (ah, .inl (cI, 16, .inl (upd hd j (nI nx))))]) [1, 0] (by decide) rfl
    exact z_vret hx hb hr hlocks hP hK hD hS zd_Q_takeNext_45 (by decide) (by decide) rfl
  · have hP : va_P (dC, dI) zcl [(ah, .inl (cI, 16, .inl hd)), (ra, .inr (1, [.ref hp, .ref ah, .ref am, .ref at_, .ref asp, .ref afa, .ref ado, .ref adt, .ref aor, .int (nI cr), .int (nI ho), .int (nI nx), .int (nI ba), .int (nI pl), .int (nI tk), .long rr]))] H := hP
    have hD : va_D A [(ah, .inl (cI, 16, .inl hd)), (ra, .inr (1, [.ref hp, .ref ah, .ref am, .ref at_, .ref asp, .ref afa, .ref ado, .ref adt, .ref aor, .int (nI cr), .int (nI ho), .int (nI nx), .int (nI ba), .int (nI pl), .int (nI tk), .long rr]))] := hD
    exact absurd hw (Nat.not_lt.mpr hw3_)
