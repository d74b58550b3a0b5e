set_option maxHeartbeats 4000000 in
set_option maxRecDepth 100000 in
theorem law_loop {p : Program} {e : Env} {s : State} {m : MethodId} {below : List Frame} {meth : Method} {c : Code} (l : Launch) {b L : Nat} {xs : Nat → Int32} (hL : L ≤ 3073) (C0 : lw_At p s m meth c b L xs) (hl9 : l.stackTraces = false) (A : Nat → Prop) (hA : ∀ q, s.heap.size ≤ q → A q) (hbA : ¬ A b) (hZ : zZ A s s.heap) (dC : Nat → ClassId) (dI : Nat → Nat → Nat) (cI cJ cZ : ClassId) (hK : va_K (dC, dI) zcl [(cI, .int), (cJ, .long), (cZ, .boolean)] s) (hA2 : ∀ q, A q → s.heap.size ≤ q) (sx hp ra aw av az af ah am at_ asp afa ado adt aor md bw bf bv bz bsp bdt bdr bhd bmv bod ou n : Nat) : ∀ (fuel k : Nat), (k = 0 ∨ 6 * k + 1 ≤ L) → L - 6 * k < fuel → zKK p l e s m below meth c b A dC dI cI cJ cZ sx hp ra aw av az af ah am at_ asp afa ado adt aor md bw bf bv bz bsp bdt bdr bhd bmv bod ou n k 33 k := by
  intro fuel
  induction fuel with
  | zero => intro k _ h; exact absurd h (Nat.not_lt_zero _)
  | succ fuel ih =>
    intro k hk0 hfu kn cr ho nx ba pl tk plm crm tkm rr th wk se fl hd mv tt sp fa dr dt od spm dtm drm hdm mvm odm wo fo H locs ls hrel hP hD hS hl
    obtain ⟨hx, hb, hr, hml, hown, hts, hX, hbl, hlocks, hgv⟩ := id C0
    have hb : c.code = zc_L_law := hb
    refine lv_iload hx hb zd_L_law_33 (lv_at hl 0 rfl) ?_
    refine lv_aload_n hx hb zd_L_law_35 rfl (lv_at hl 1 rfl) ?_
    refine va_slen hx hb hX hbl hbA hS zd_L_law_36 ?_
    refine lv_bipush (v := nI 6) hx hb zd_L_law_37 (by decide) ?_
    refine lv_isub hx hb zd_L_law_39 ?_
    refine lv_icmp_gt (tgt := 840) hx hb zd_L_law_40 (by decide) (fun c1 => ?_) (fun c1 => ?_)
    · refine lv_iconst (v := 1) hx hb zd_L_law_840 (by decide) ?_
      refine va_forget (fun q h => hA2 _ (hS.2.2 q h)) ?_
      refine W.widen (k := 1059) (n := 8633) (by omega) (by omega) ?_
      exact lw_ret hx hb hr hlocks zd_L_law_841
    · have hk : 1 + 6 * k + 6 ≤ L := by
        have c2 : ¬ nI L - nI 6 < nI (1 + 6 * k) := c1
        rw [Int32.lt_iff_toInt_lt, pk_sub_toInt (by omega) (by omega), nI_toInt (by omega)] at c2
        omega
      have KK : zKK p l e s m below meth c b A dC dI cI cJ cZ sx hp ra aw av az af ah am at_ asp afa ado adt aor md bw bf bv bz bsp bdt bdr bhd bmv bod ou n k 834 (k + 1) := by
        intro kn cr ho nx ba pl tk plm crm tkm rr th wk se fl hd mv tt sp fa dr dt od spm dtm drm hdm mvm odm wo fo H locs ls hrel hP hD hS hl
        refine lv_iinc (v := nI (1 + 6 * (k + 1))) (lv' := [(4, .int (nI (1 + 6 * (k + 1)))), (0, .ref b), (1, .ref sx), (2, .ref md), (3, .ref ou)]) hx hb zd_L_law_834 hl (k := 0) rfl (show nI (1 + 6 * k) + nI 6 = nI (1 + 6 * (k + 1)) from (nI_add _ _).trans (congrArg nI (by omega))) (by decide) rfl (fun ls hl => ?_)
        refine lv_goto (tgt := 33) hx hb zd_L_law_837 (by decide) ?_
        exact ih (k + 1) (Or.inr (by omega)) (by omega) kn cr ho nx ba pl tk plm crm tkm rr th wk se fl hd mv tt sp fa dr dt od spm dtm drm hdm mvm odm wo fo _ _ _ hrel hP hD hS hl
      refine lv_aload_n hx hb zd_L_law_43 rfl (lv_at hl 1 rfl) ?_
      refine lv_iload hx hb zd_L_law_44 (lv_at hl 0 rfl) ?_
      refine z_sld hx hb hX hbl hbA hS (j := 1 + 6 * k) (by omega) (by omega) zd_L_law_46 ?_
      refine lv_bipush (v := nI 15) hx hb zd_L_law_47 (by decide) ?_
      refine lv_iand hx hb zd_L_law_49 ?_
      obtain ⟨j, hj, ej⟩ := pk_andE (xs (1 + 6 * k)) (m := nI 15) 4 (by decide)
      refine z_topi (y := nI j) ej ?_
      rcases (show j = 0 ∨ j = 1 ∨ j = 2 ∨ j = 3 ∨ j = 4 ∨ j = 5 ∨ j = 6 ∨ j = 7 ∨ j = 8 ∨ j = 9 ∨ j = 10 ∨ 10 < j by omega) with rfl | rfl | rfl | rfl | rfl | rfl | rfl | rfl | rfl | rfl | rfl | hj2
      · refine lv_tableIn (off := 58) (tgt := 108) hx hb zd_L_law_50 (by decide) (by decide) (by decide) (by decide) ?_
        exact law_c0 l hL C0 hl9 A hA hbA hZ dC dI cI cJ cZ hK sx hp ra aw av az af ah am at_ asp afa ado adt aor md bw bf bv bz bsp bdt bdr bhd bmv bod ou n k hk KK kn cr ho nx ba pl tk plm crm tkm rr th wk se fl hd mv tt sp fa dr dt od spm dtm drm hdm mvm odm wo fo _ _ _ hrel hP hD hS hl
      · refine lv_tableIn (off := 205) (tgt := 255) hx hb zd_L_law_50 (by decide) (by decide) (by decide) (by decide) ?_
        exact law_c1 l hL C0 hl9 A hA hbA hZ dC dI cI cJ cZ hK sx hp ra aw av az af ah am at_ asp afa ado adt aor md bw bf bv bz bsp bdt bdr bhd bmv bod ou n k hk KK kn cr ho nx ba pl tk plm crm tkm rr th wk se fl hd mv tt sp fa dr dt od spm dtm drm hdm mvm odm wo fo _ _ _ hrel hP hD hS hl
      · refine lv_tableIn (off := 280) (tgt := 330) hx hb zd_L_law_50 (by decide) (by decide) (by decide) (by decide) ?_
        exact law_c2 l hL C0 hl9 A hA hbA hZ dC dI cI cJ cZ hK sx hp ra aw av az af ah am at_ asp afa ado adt aor md bw bf bv bz bsp bdt bdr bhd bmv bod ou n k hk KK kn cr ho nx ba pl tk plm crm tkm rr th wk se fl hd mv tt sp fa dr dt od spm dtm drm hdm mvm odm wo fo _ _ _ hrel hP hD hS hl
      · refine lv_tableIn (off := 392) (tgt := 442) hx hb zd_L_law_50 (by decide) (by decide) (by decide) (by decide) ?_
        exact law_c3 l hL C0 hl9 A hA hbA hZ dC dI cI cJ cZ hK sx hp ra aw av az af ah am at_ asp afa ado adt aor md bw bf bv bz bsp bdt bdr bhd bmv bod ou n k hk KK kn cr ho nx ba pl tk plm crm tkm rr th wk se fl hd mv tt sp fa dr dt od spm dtm drm hdm mvm odm wo fo _ _ _ hrel hP hD hS hl
      · refine lv_tableIn (off := 435) (tgt := 485) hx hb zd_L_law_50 (by decide) (by decide) (by decide) (by decide) ?_
        exact law_c4 l hL C0 hl9 A hA hbA hZ dC dI cI cJ cZ hK sx hp ra aw av az af ah am at_ asp afa ado adt aor md bw bf bv bz bsp bdt bdr bhd bmv bod ou n k hk KK kn cr ho nx ba pl tk plm crm tkm rr th wk se fl hd mv tt sp fa dr dt od spm dtm drm hdm mvm odm wo fo _ _ _ hrel hP hD hS hl
      · refine lv_tableIn (off := 491) (tgt := 541) hx hb zd_L_law_50 (by decide) (by decide) (by decide) (by decide) ?_
        exact law_c5 l hL C0 hl9 A hA hbA hZ dC dI cI cJ cZ hK sx hp ra aw av az af ah am at_ asp afa ado adt aor md bw bf bv bz bsp bdt bdr bhd bmv bod ou n k hk KK kn cr ho nx ba pl tk plm crm tkm rr th wk se fl hd mv tt sp fa dr dt od spm dtm drm hdm mvm odm wo fo _ _ _ hrel hP hD hS hl
      · refine lv_tableIn (off := 547) (tgt := 597) hx hb zd_L_law_50 (by decide) (by decide) (by decide) (by decide) ?_
        exact law_c6 l hL C0 hl9 A hA hbA hZ dC dI cI cJ cZ hK sx hp ra aw av az af ah am at_ asp afa ado adt aor md bw bf bv bz bsp bdt bdr bhd bmv bod ou n k hk KK kn cr ho nx ba pl tk plm crm tkm rr th wk se fl hd mv tt sp fa dr dt od spm dtm drm hdm mvm odm wo fo _ _ _ hrel hP hD hS hl
      · refine lv_tableIn (off := 603) (tgt := 653) hx hb zd_L_law_50 (by decide) (by decide) (by decide) (by decide) ?_
        exact law_c7 l hL C0 hl9 A hA hbA hZ dC dI cI cJ cZ hK sx hp ra aw av az af ah am at_ asp afa ado adt aor md bw bf bv bz bsp bdt bdr bhd bmv bod ou n k hk KK kn cr ho nx ba pl tk plm crm tkm rr th wk se fl hd mv tt sp fa dr dt od spm dtm drm hdm mvm odm wo fo _ _ _ hrel hP hD hS hl
      · refine lv_tableIn (off := 659) (tgt := 709) hx hb zd_L_law_50 (by decide) (by decide) (by decide) (by decide) ?_
        exact law_c8 l hL C0 hl9 A hA hbA hZ dC dI cI cJ cZ hK sx hp ra aw av az af ah am at_ asp afa ado adt aor md bw bf bv bz bsp bdt bdr bhd bmv bod ou n k hk KK kn cr ho nx ba pl tk plm crm tkm rr th wk se fl hd mv tt sp fa dr dt od spm dtm drm hdm mvm odm wo fo _ _ _ hrel hP hD hS hl
      · refine lv_tableIn (off := 715) (tgt := 765) hx hb zd_L_law_50 (by decide) (by decide) (by decide) (by decide) ?_
        exact law_c9 l hL C0 hl9 A hA hbA hZ dC dI cI cJ cZ hK sx hp ra aw av az af ah am at_ asp afa ado adt aor md bw bf bv bz bsp bdt bdr bhd bmv bod ou n k hk KK kn cr ho nx ba pl tk plm crm tkm rr th wk se fl hd mv tt sp fa dr dt od spm dtm drm hdm mvm odm wo fo _ _ _ hrel hP hD hS hl
      · refine lv_tableIn (off := 771) (tgt := 821) hx hb zd_L_law_50 (by decide) (by decide) (by decide) (by decide) ?_
        exact law_c10 l hL C0 hl9 A hA hbA hZ dC dI cI cJ cZ hK sx hp ra aw av az af ah am at_ asp afa ado adt aor md bw bf bv bz bsp bdt bdr bhd bmv bod ou n k hk KK kn cr ho nx ba pl tk plm crm tkm rr th wk se fl hd mv tt sp fa dr dt od spm dtm drm hdm mvm odm wo fo _ _ _ hrel hP hD hS hl
      · refine lv_tableOut (tgt := 834) hx hb zd_L_law_50 (Or.inr (by rw [nI_toInt (by omega)]; omega)) (by decide) ?_
        refine W.widen (k := 27 + 2 * (k + 1)) (n := 393 + 12 * (k + 1)) (by omega) (by omega) ?_
        exact KK kn cr ho nx ba pl tk plm crm tkm rr th wk se fl hd mv tt sp fa dr dt od spm dtm drm hdm mvm odm wo fo _ _ _ hrel hP hD hS hl
