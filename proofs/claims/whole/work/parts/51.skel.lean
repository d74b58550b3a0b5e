/-! THE CLAIM OUT OF ONE WALK OF THE LAW'S BODY. Your part is whole_start (and what it stands on); all else here is the same for every law, but numbers. -/
def R_law : String := "ShareRunsLaw"
def lw_P (b : Addr) (xs : List Int32) (args : Array Value) (s : State) : Prop := args = #[.ref b] ∧ s.IntsAt b xs ∧ xs.length ≤ 3073 ∧ (Jvm.Cond.and given_1 narrow_1).before args s = true
def lw_Q (_ : Array Value) (s : State) (o : Outcome) (t : State) : Prop := o = .returned (some (.int 1)) ∧ Framed s o t [] 1059 8633
def lw_Z (below : List Frame) (a : Array Value) (s : State) : State → Prop := fun t => ∃ o, t.status = .running ∧ Ended t below o ∧ lw_Q a s o t
/-- the law's own end, with 1 on the stack, nothing written that was there before, its room as the claim has it -/
theorem lw_ret {p : Program} {l : Launch} {e : Env} {s : State} {m : MethodId} {below : List Frame} {meth : Method} {c : Code} {b : Nat} (hx : p.tables.exec = Jvm.exec) (hb : c.code = code) (hr : meth.sig.returnType = ret) (hlocks : meth.locks = false) {pc : Nat} {H : Heap} {ls : Array Slot} (hdg : decode code pc = .ok (.ireturn, 1)) : W p l e room_1 s m #[Value.ref b] below meth c H [] 1059 8633 (lw_Z below #[Value.ref b] s) (F0 m pc ls [.int 1]) := by
  intro T hT X
  obtain ⟨fs, hret, hrun, hended, hW, hframe⟩ := X.leave (v := some (.int 1)) (hlocks := hlocks) (fun h => by rw [hr] at h; cases h)
  have hmeth' : T.vm.method? m = some meth := X.method'
  refine ⟨T.setFrames fs, ?_, .returned (some (.int 1)), hrun, hended, rfl, ⟨_, rfl⟩, hW, hframe⟩
  jvm_step X.here [X.here.top, hx, hb, hdg, hmeth', hr, ret, narrow_b1]
  (try refine ⟨rfl, ?_⟩); (try refine ⟨rfl, ?_⟩)
  first | (intro acts; rw [hret _ acts rfl rfl rfl]) | rw [hret _ _ rfl rfl rfl]
  exact Steps.refl _
/-- what holds at the law's entry: the machine, the code, the tables' words (any of lw_tbl by 'hts w (by decide +kernel)'), the script of L ints xs at the cell b, what the Statement gives of the start (any of its parts by flat_of_before) -/
def lw_At (p : Program) (s : State) (m : MethodId) (meth : Method) (c : Code) (b L : Nat) (xs : Nat → Int32) : Prop :=
  p.tables.exec = Jvm.exec ∧ c.code = code ∧ meth.sig.returnType = ret ∧ c.maxLocals = 8 ∧ s.vm.findClass R_law = some m.cls ∧ (∀ w ∈ lw_tbl, w.before #[Value.ref b] s = true) ∧ va_X b L xs s s.heap ∧ b < s.heap.size ∧ meth.locks = false ∧ (Jvm.Cond.and given_1 narrow_1).before #[Value.ref b] s = true
/-- what the law goes on from, between two calls -/
abbrev zKK (p : Program) (l : Launch) (e : Env) (s : State) (m : MethodId) (below : List Frame) (meth : Method) (c : Code) (b : Nat) (A : Nat → Prop) (dC : Nat → ClassId) (dI : Nat → Nat → Nat) (cI cJ cZ : ClassId) (sx hp ra aw av az af ah am at_ asp afa ado adt aor md bw bf bv bz bsp bdt bdr bhd bmv bod ou n k pc k2 : Nat) : Prop :=
  ∀ (kn : Nat) (cr : Nat) (ho : Nat) (nx : Nat) (ba : Nat) (pl : Nat) (tk : Nat) (plm : Nat) (crm : Nat) (tkm : Nat) (rr : Int64) (th : Int32) (wk : ZA) (se : ZA) (fl : ZA) (hd : ZA) (mv : ZA) (tt : ZA) (sp : ZA) (fa : ZA) (dr : ZA) (dt : ZA) (od : ZA) (spm : ZA) (dtm : ZA) (drm : ZA) (hdm : ZA) (mvm : ZA) (odm : ZA) (wo : Nat → Int64) (fo : Nat → Int64) (H : Heap) (locs : List Loc) (ls : Array Slot), zrel n kn cr pl tk crm plm tkm wk fl fa tt sp mv dr dt od spm mvm drm dtm odm → va_P (dC, dI) zcl [(sx, .inr (2, [.ref hp, .ref ra, .int (nI kn)])), (hp, .inr (0, [.int (nI n), .ref aw, .ref av, .ref az, .ref af])), (aw, .inl (cI, 16, .inl wk)), (av, .inl (cJ, 16, .inr (.inl wo))), (az, .inl (cZ, 16, .inl se)), (af, .inl (cI, 16, .inl fl)), (ra, .inr (1, [.ref hp, .ref ah, .ref am, .ref at_, .ref asp, .ref afa, .ref ado, .ref adt, .ref aor, .int (nI cr), .int (nI ho), .int (nI nx), .int (nI ba), .int (nI pl), .int (nI tk), .long rr])), (ah, .inl (cI, 16, .inl hd)), (am, .inl (cI, 16, .inl mv)), (at_, .inl (cI, 16, .inl tt)), (asp, .inl (cI, 16, .inl sp)), (afa, .inl (cI, 16, .inl fa)), (ado, .inl (cI, 16, .inl dr)), (adt, .inl (cI, 16, .inl dt)), (aor, .inl (cI, 16, .inl od)), (md, .inr (3, [.int th, .int (nI n), .ref bw, .ref bf, .ref bv, .ref bz, .int (nI kn), .ref bsp, .ref bdt, .ref bdr, .ref bhd, .ref bmv, .ref bod, .int (nI plm), .int (nI crm), .int (nI tkm)])), (bw, .inl (cI, 16, .inl wk)), (bf, .inl (cI, 16, .inl fl)), (bv, .inl (cJ, 16, .inr (.inl wo))), (bz, .inl (cZ, 16, .inl se)), (bsp, .inl (cI, 16, .inl spm)), (bdt, .inl (cI, 16, .inl dtm)), (bdr, .inl (cI, 16, .inl drm)), (bhd, .inl (cI, 16, .inl hdm)), (bmv, .inl (cI, 16, .inl mvm)), (bod, .inl (cI, 16, .inl odm)), (ou, .inl (cJ, 1, .inr (.inl fo)))] H → va_D A [(sx, .inr (2, [.ref hp, .ref ra, .int (nI kn)])), (hp, .inr (0, [.int (nI n), .ref aw, .ref av, .ref az, .ref af])), (aw, .inl (cI, 16, .inl wk)), (av, .inl (cJ, 16, .inr (.inl wo))), (az, .inl (cZ, 16, .inl se)), (af, .inl (cI, 16, .inl fl)), (ra, .inr (1, [.ref hp, .ref ah, .ref am, .ref at_, .ref asp, .ref afa, .ref ado, .ref adt, .ref aor, .int (nI cr), .int (nI ho), .int (nI nx), .int (nI ba), .int (nI pl), .int (nI tk), .long rr])), (ah, .inl (cI, 16, .inl hd)), (am, .inl (cI, 16, .inl mv)), (at_, .inl (cI, 16, .inl tt)), (asp, .inl (cI, 16, .inl sp)), (afa, .inl (cI, 16, .inl fa)), (ado, .inl (cI, 16, .inl dr)), (adt, .inl (cI, 16, .inl dt)), (aor, .inl (cI, 16, .inl od)), (md, .inr (3, [.int th, .int (nI n), .ref bw, .ref bf, .ref bv, .ref bz, .int (nI kn), .ref bsp, .ref bdt, .ref bdr, .ref bhd, .ref bmv, .ref bod, .int (nI plm), .int (nI crm), .int (nI tkm)])), (bw, .inl (cI, 16, .inl wk)), (bf, .inl (cI, 16, .inl fl)), (bv, .inl (cJ, 16, .inr (.inl wo))), (bz, .inl (cZ, 16, .inl se)), (bsp, .inl (cI, 16, .inl spm)), (bdt, .inl (cI, 16, .inl dtm)), (bdr, .inl (cI, 16, .inl drm)), (bhd, .inl (cI, 16, .inl hdm)), (bmv, .inl (cI, 16, .inl mvm)), (bod, .inl (cI, 16, .inl odm)), (ou, .inl (cJ, 1, .inr (.inl fo)))] → va_S A s.heap H locs → lv_has ls 8 [(4, .int (nI (1 + 6 * k))), (0, .ref b), (1, .ref sx), (2, .ref md), (3, .ref ou)] → W p l e room_1 s m #[Value.ref b] below meth c H locs (27 + 2 * k2) (393 + 12 * k2) (lw_Z below #[Value.ref b] s) (F0 m pc ls [])
theorem z_sld {p : Program} {l : Launch} {e : Env} {R : Room} {s : State} {m : MethodId} {args : Array Value} {below : List Frame} {meth : Method} {c : Code} {H : Heap} {locs : List Loc} {cells slots : Nat} {Q : State → Prop} {cc : ByteArray} {pc : Nat} {ls : Array Slot} {rest : List Value} {A : Nat → Prop} {H0 : Heap} (hexec : p.tables.exec = Jvm.exec) (hb : c.code = cc) {b L : Nat} {xs : Nat → Int32} (hX : va_X b L xs s H0) (hbl : b < H0.size) (hbA : ¬ A b) (hS : va_S A H0 H locs) {j : Nat} (hj : j < L) (hL : L < 2 ^ 31) (hdg : decode cc pc = .ok (.iaload, 1)) (kk : W p l e R s m args below meth c H locs cells slots Q (F0 m (pc + 1) ls (.int (xs j) :: rest))) : W p l e R s m args below meth c H locs cells slots Q (F0 m pc ls (.int (nI j) :: .ref b :: rest)) :=
  va_sld hexec hb hX hbl hbA hS (vp_in_nI hj hL) hdg (by rw [nI_clamp (Nat.lt_trans hj hL)]; exact kk)
theorem zvth_le {n : Nat} {sh w : Int32} : zvth n sh w ≤ 2 := by simp only [zvth]; split <;> (try split) <;> omega
theorem zfth_le {n : Nat} {sh w : Int32} : zfth n sh w ≤ 2 := by simp only [zfth]; split <;> (try split) <;> omega
theorem zkc_le {kn : Nat} : zkc kn ≤ 2 := by simp only [zkc]; split <;> omega
theorem zkc2_le {kn m : Nat} {sh : Int32} : zkc2 kn m sh ≤ 2 := by simp only [zkc2]; split <;> (try split) <;> omega
theorem z_n0 {t : Nat} (hl : t ≤ 2) (h : nI t = 0) : t = 0 := (nI_eq (b := 0) (by omega) (by decide)).mp h
section ZQ
variable {n kn cr pl tk crm plm tkm : Nat} {wk fl fa tt sp mv dr dt od spm mvm drm dtm odm : ZA} {sh d : Int32} {z : Nat}
theorem zrd_od (h : zrel n kn cr pl tk crm plm tkm wk fl fa tt sp mv dr dt od spm mvm drm dtm odm) (ht : zkc2 kn pl sh = 0) : zrd (zkc2 kn pl sh) od sh = zrd (zkc2 kn pl sh) odm sh := by
  obtain ⟨hk, ho⟩ := zkc2_k ht
  obtain ⟨⟨-, -, -, -, a5, -⟩, -⟩ := id h
  obtain ⟨j, h1, rfl⟩ := z_has (by omega) ho.1 ho.2
  simp only [zrd]
  rw [if_pos ht, if_pos ht, nI_clamp (by omega)]
  exact (h.2 (zrel_k1 h hk)).2.2.2.2.2.2.2.1 j h1
theorem zsel_fa (h : zrel n kn cr pl tk crm plm tkm wk fl fa tt sp mv dr dt od spm mvm drm dtm odm) (ht : zkc2 kn n sh = 0) : zsel (zkc2 kn n sh) z fa d sh = zsel (zkc2 kn n sh) z (zmf spm wk fl) d sh := by
  obtain ⟨hk, ho⟩ := zkc2_k ht
  obtain ⟨⟨-, a2, -⟩, -⟩ := id h
  obtain ⟨j, h1, rfl⟩ := z_has (by omega) ho.1 ho.2
  have hr := h.2 (zrel_k1 h hk)
  simp only [zsel]
  rw [if_pos ht, if_pos ht, nI_clamp (by omega), ← hr.2.2.2.1, zmf_eq (hr.2.2.2.2.2.2.2.2 j h1)]
end ZQ
