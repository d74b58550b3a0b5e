def zcell (L : Nat) (xs : Nat → Int32) : Int32 := if 0 < L then xs 0 else nI 0
set_option maxHeartbeats 4000000 in
theorem k_cell (l : Launch) (b L : Nat) (xs : Nat → Int32) (hL : L ≤ 3073) (sz : Nat) : Met l zy_L_cell zw_L_cell ({ frames := 0, cells := 0, slots := 0, locals := 0 }) (va_Pc [.ref b, .int (nI 0)] (fun U => U.heap.size = sz ∧ va_X b L xs U U.heap ∧ b < sz)) (va_Qi (fun (r : Int32) (_ : Unit) => r = zcell L xs) (fun _ _ => True) (fun q => sz ≤ q)) 0 0 (fun q => sz ≤ q) := by
  refine Met.ofW (cc := zc_L_cell) (maxL := 2) (ret := (some .int)) (by decide) rfl ?_
  intro p e s m args below meth c s₁ B hml hv
  obtain ⟨rfl, hsz, hX, hbl⟩ := hv
  have hx := B.exec
  have hb := B.bytes
  have hr := B.returns
  have hlocks := B.notSynchronized
  subst hsz
  have hS : va_S (fun q : Nat => s.heap.size ≤ q) s.heap s.heap [] := va_S.rf
  have hbA : ¬ (fun q : Nat => s.heap.size ≤ q) b := Nat.not_le.mpr hbl
  have hl := lv_entry ([.ref b, .int (nI 0)]) (n := 2) (Nat.le_of_ble_eq_true rfl)
  rw [lg_entry_eq]
  generalize (lg_sl ([.ref b, .int (nI 0)]) ++ List.replicate (2 - (lg_sl ([.ref b, .int (nI 0)])).length) Slot.unset).toArray = ls at hl ⊢
  have hl : lv_has ls 2 [(0, .ref b), (1, .int (nI 0))] := hl
  refine lv_iload_n hx hb zd_L_cell_0 rfl (lv_at hl 1 rfl) ?_
  refine lv_aload_n hx hb zd_L_cell_1 rfl (lv_at hl 0 rfl) ?_
  refine va_slen hx hb hX hbl hbA hS zd_L_cell_2 ?_
  refine lv_icmp_ge (tgt := 12) hx hb zd_L_cell_3 (by decide) (fun c1 => ?_) (fun c1 => ?_)
  · have h0 : ¬ 0 < L := fun h => nI_ge h (by omega) (show nI L ≤ nI 0 from c1)
    refine lv_iconst (v := nI 0) hx hb zd_L_cell_12 (by decide) ?_
    exact W.iret (v := nI 0) hx hb hr (fun t ht hW => ⟨⟨nI 0, (), rfl, by simp only [zcell]; rw [if_neg h0], trivial⟩, hS.F ht⟩) hS.2.2 zd_L_cell_13 hlocks
  · have h0 : 0 < L := by
      rcases Nat.eq_zero_or_pos L with h | h
      · exact absurd (show nI L ≤ nI 0 by rw [h]; exact Int32.le_refl _) c1
      · exact h
    refine lv_aload_n hx hb zd_L_cell_6 rfl (lv_at hl 0 rfl) ?_
    refine lv_iload_n hx hb zd_L_cell_7 rfl (lv_at hl 1 rfl) ?_
    refine z_sld hx hb hX hbl hbA hS (j := 0) h0 (by omega) zd_L_cell_8 ?_
    refine lv_goto (tgt := 13) hx hb zd_L_cell_9 (by decide) ?_
    exact W.iret (v := xs 0) hx hb hr (fun t ht hW => ⟨⟨xs 0, (), rfl, by simp only [zcell]; rw [if_pos h0], trivial⟩, hS.F ht⟩) hS.2.2 zd_L_cell_13 hlocks
theorem z_cell {p : Program} {l : Launch} {e : Env} {R : Room} {s : State} {m : MethodId} {args : Array Value} {below : List Frame} {meth : Method} {c : Code} {H : Heap} {locs : List Loc} {cells slots : Nat} {Q : State → Prop} {cc : ByteArray} {pc nL index : Nat} {ls : Array Slot} {rest : List Value} {D : va_G} {cl : List vw_C} {A : Nat → Prop} {ws : va_W} {own : String} {Ts : List Cond}
    {b L : Nat} {xs : Nat → Int32} (hL : L ≤ 3073) (S : CallFix p m c cc nL s args Ts own) (cw : CallB R s args own index zy_L_cell zc_L_cell 2 (some .int) zw_L_cell ({ frames := 0, cells := 0, slots := 0, locals := 0 }) 0 0 2 ∧ (Cond.static zy_L_cell).before args s = true) (hX : va_X b L xs s s.heap) (hbl : b < s.heap.size) (hbA : ¬ A b) (hA : ∀ q, s.heap.size ≤ q → A q) (hP : va_P D cl ws H) (hS : va_S A s.heap H locs)
    (hsz : ls.size = nL) (hrm : (rest.map fun v => v.category).sum ≤ 8) (hdg : decode cc pc = .ok (.invokestatic index, 3)) (hf : cells + 0 ≤ R.cells ∧ slots + 0 ≤ R.slots)
    (kk : ∀ (H1 : Heap) (locs1 : List Loc), va_P D cl ws H1 → va_S A s.heap H1 locs1 → W p l e R s m args below meth c H1 locs1 (cells + 0) (slots + 0) Q (F0 m (pc + 3) ls (.int (zcell L xs) :: rest))) : W p l e R s m args below meth c H locs cells slots Q (F0 m pc ls (.int (nI 0) :: .ref b :: rest)) := by
  have hbH : H[b]? = s.heap[b]? := hS.2.1 b hbl hbA
  refine va_calli (va_runS (As := [.ref b, .int (nI 0)]) (rest := rest) S (k_cell l b L xs hL H.size) cw ⟨fun a U g mk q => ⟨q.1, q.2.1, va_X.moved (u := U) (U := U.calling g mk a) (Vm.Alike.refl U.vm) q.2.2.1, q.2.2.2⟩, fun U hU hW => ⟨rfl, by rw [hU], by rw [hU]; exact va_X.moved hW.alike (hX.kept hbH), Nat.lt_of_lt_of_le hbl hS.1⟩⟩ rfl rfl hsz rfl (lv_room hrm) hdg hf) hS (fun q _ h => hA q (Nat.le_trans hS.1 h)) (fun q h => hA q (Nat.le_trans hS.1 h)) (fun r u t H1 locs1 ht hvm hw hB hz1 hk1 hS1 => ?_)
  have hw' : r = zcell L xs := hw
  subst hw'
  exact kk H1 locs1 (hP.kept (fun k q hq => hk1 q.1 (hP k q hq).lt (Nat.not_le.mpr (hP k q hq).lt))) hS1
