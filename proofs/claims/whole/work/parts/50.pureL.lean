/-- what ties the class's numbers to the reference's, between two calls -/
def zrel (n kn cr pl tk crm plm tkm : Nat) (wk fl fa tt sp mv dr dt od spm mvm drm dtm odm : ZA) : Prop :=
  (1 ≤ n ∧ n ≤ 16 ∧ kn ≤ 1 ∧ cr ≤ 16 ∧ pl ≤ 16 ∧ crm ≤ 16 ∧ plm ≤ 16 ∧ zcfg n wk fl) ∧
  (kn = 1 → cr = crm ∧ pl = plm ∧ tk = tkm ∧ sp = spm ∧ mv = mvm ∧ dr = drm ∧ dt = dtm ∧ (∀ i, i < pl → od i = odm i) ∧ ∀ j, j < n → zshr wk fl fa tt sp dt j)
section ZRel
variable {n kn cr pl tk crm plm tkm : Nat} {wk fl fa tt sp mv dr dt od spm mvm drm dtm odm se : ZA} {wo : Nat → Int64} {sh w : Int32} {v : Int64} {b : Int32}
theorem zup_cfg {wk2 : ZA} (hn : n ≤ 16) (h : zcfg n wk fl) (hj : ∀ i, i < n → wk2 i ≠ wk i → ∃ a : Nat, 1 ≤ a ∧ a ≤ 100 ∧ wk2 i = nI a) : zcfg n wk2 fl := fun i hi => by
  obtain ⟨a, b, h1, h2, h3, h4, h5⟩ := h i hi
  by_cases e : wk2 i = wk i
  · exact ⟨a, b, h1, h2, h3, by rw [e]; exact h4, h5⟩
  · obtain ⟨a2, k1, k2, k3⟩ := hj i hi e
    exact ⟨a2, b, k1, k2, h3, k3, h5⟩
theorem zrel_value (h : zrel n kn cr pl tk crm plm tkm wk fl fa tt sp mv dr dt od spm mvm drm dtm odm) : zrel n (zk2 (zvo n wk wo se sh w v b) kn) cr pl tk crm plm tkm (zup (zvth n sh w) wk sh.toNatClampNeg w) fl fa tt sp mv dr dt od spm mvm drm dtm odm := by
  obtain ⟨⟨a1, a2, a3, a4, a5, a6, a7, a8⟩, hk⟩ := h
  by_cases c : zvth n sh w = 0
  · have hw : ¬ (w < nI 1 ∨ nI 100 < w) := fun z => by
      simp only [zvth] at c
      split at c
      · omega
      · omega
    obtain ⟨a, k1, k2, k3⟩ := z_rng (a := 1) (b := 100) (by decide) (by decide) (fun z => hw (Or.inl z)) (fun z => hw (Or.inr z))
    have hz : zup (zvth n sh w) wk sh.toNatClampNeg w = upd wk sh.toNatClampNeg w := by simp only [zup]; rw [if_pos c]
    refine ⟨⟨a1, a2, by simp only [zk2]; split <;> omega, a4, a5, a6, a7, ?_⟩, fun q => ?_⟩
    · rw [hz]
      refine zup_cfg a2 a8 (fun i hi hne => ?_)
      by_cases e : i = sh.toNatClampNeg
      · rw [e, pk_us]; exact ⟨a, k1, k2, k3⟩
      · exact absurd (pk_un e) hne
    · have ho : ¬ zvo n wk wo se sh w v b = 1 := fun z => by
        simp only [zk2] at q; rw [if_pos z] at q; omega
      have hq : kn = 1 := by simp only [zk2] at q; rw [if_neg ho] at q; exact q
      have he : wk sh.toNatClampNeg = w := by
        by_cases e : wk sh.toNatClampNeg = w
        · exact e
        · exact absurd (by simp only [zvo]; rw [if_pos ⟨c, fun z => e z.1⟩]) ho
      rw [hz, z_updself he]
      exact hk hq
  · have ho : zvo n wk wo se sh w v b = 0 := zvo_t c
    have hz : zup (zvth n sh w) wk sh.toNatClampNeg w = wk := by simp only [zup]; rw [if_neg c]
    have hk2 : zk2 0 kn = kn := rfl
    rw [ho, hz, hk2]
    exact ⟨⟨a1, a2, a3, a4, a5, a6, a7, a8⟩, hk⟩
theorem zrel_faults (h : zrel n kn cr pl tk crm plm tkm wk fl fa tt sp mv dr dt od spm mvm drm dtm odm) : zrel n (zk2 (zfo n fl sh w) kn) cr pl tk crm plm tkm wk (zup (zfth n sh w) fl sh.toNatClampNeg w) fa tt sp mv dr dt od spm mvm drm dtm odm := by
  obtain ⟨⟨a1, a2, a3, a4, a5, a6, a7, a8⟩, hk⟩ := h
  by_cases c : zfth n sh w = 0
  · have hw : ¬ (w < 0 ∨ nI 3 < w) := fun z => by
      simp only [zfth] at c
      split at c
      · omega
      · omega
    obtain ⟨a, -, k2, k3⟩ := z_rng (a := 0) (b := 3) (by decide) (by decide) (fun z => hw (Or.inl z)) (fun z => hw (Or.inr z))
    have hz : zup (zfth n sh w) fl sh.toNatClampNeg w = upd fl sh.toNatClampNeg w := by simp only [zup]; rw [if_pos c]
    refine ⟨⟨a1, a2, by simp only [zk2]; split <;> omega, a4, a5, a6, a7, ?_⟩, fun q => ?_⟩
    · rw [hz]
      intro i hi
      obtain ⟨p, q, h1, h2, h3, h4, h5⟩ := a8 i hi
      by_cases e : i = sh.toNatClampNeg
      · exact ⟨p, a, h1, h2, k2, h4, by rw [e, pk_us]; exact k3⟩
      · exact ⟨p, q, h1, h2, h3, h4, by rw [pk_un e]; exact h5⟩
    · have ho : ¬ zfo n fl sh w = 1 := fun z => by
        simp only [zk2] at q; rw [if_pos z] at q; omega
      have hq : kn = 1 := by simp only [zk2] at q; rw [if_neg ho] at q; exact q
      have he : fl sh.toNatClampNeg = w := by
        by_cases e : fl sh.toNatClampNeg = w
        · exact e
        · exact absurd (by simp only [zfo]; rw [if_pos ⟨c, e⟩]) ho
      rw [hz, z_updself he]
      exact hk hq
  · have ho : zfo n fl sh w = 0 := zfo_t c
    have hz : zup (zfth n sh w) fl sh.toNatClampNeg w = fl := by simp only [zup]; rw [if_neg c]
    have hk2 : zk2 0 kn = kn := rfl
    rw [ho, hz, hk2]
    exact ⟨⟨a1, a2, a3, a4, a5, a6, a7, a8⟩, hk⟩
theorem zrel_k1 (h : zrel n kn cr pl tk crm plm tkm wk fl fa tt sp mv dr dt od spm mvm drm dtm odm) (hk : ¬ kn = 0) : kn = 1 := by
  obtain ⟨⟨_, _, a3, _⟩, _⟩ := h
  omega
theorem zrel_crew (h : zrel n kn cr pl tk crm plm tkm wk fl fa tt sp mv dr dt od spm mvm drm dtm odm) : zkc2 kn crm sh = zkc2 kn cr sh := by
  by_cases c : kn = 0
  · rw [zkc2_1 c, zkc2_1 c]
  · rw [(h.2 (zrel_k1 h c)).1]
theorem zrel_places (h : zrel n kn cr pl tk crm plm tkm wk fl fa tt sp mv dr dt od spm mvm drm dtm odm) : zkc2 kn plm sh = zkc2 kn pl sh := by
  by_cases c : kn = 0
  · rw [zkc2_1 c, zkc2_1 c]
  · rw [(h.2 (zrel_k1 h c)).2.1]
theorem zkc_k {c : Int32} (h : zkc kn = 0) : ¬ kn = 0 := fun z => by rw [zkc_1 z] at h; omega
theorem zkc2_k {m : Nat} (h : zkc2 kn m sh = 0) : ¬ kn = 0 ∧ zok m sh := by
  simp only [zkc2] at h
  split at h
  · omega
  · rename_i hk
    split at h
    · rename_i ho; exact ⟨hk, ho⟩
    · omega
theorem zmf_eq {j : Nat} (h : zshr wk fl fa tt sp dt j) : zmf sp wk fl j = fa j := by
  obtain ⟨a, b, f, t, q1, q2, q3, q4, q5, q6, q7, q8, q9, qd⟩ := h
  have hm := zsp_sm q2 q3 q9 q8
  simp only [zmf]
  rw [q4, q5, q6]
  rcases qd with ⟨-, qs⟩ | ⟨-, e1, e2, qs⟩
  · rw [qs, pk_div (by omega) q1 (by omega)]
    have hd : (f * a + t) / a = f := by
      rw [Nat.mul_comm, Nat.mul_add_div (by omega), Nat.div_eq_of_lt q8, Nat.add_zero]
    rw [hd]
    by_cases c : nI f < nI b
    · rw [if_pos c]
    · rw [if_neg c]
      rw [nI_ltI (by omega) (by omega)] at c
      rw [show f = b by omega]
  · rw [qs, pk_div (by omega) q1 (by omega)]
    have hd : a * (b + 1) / a = b + 1 := Nat.mul_div_cancel_left _ (by omega)
    rw [hd, if_neg (by rw [nI_ltI (by omega) (by omega)]; omega), e1]
end ZRel
/-- two runs that are alike but for the places of the row that weren't written -/
def zeqo (x y : ZS) : Prop := match x, y with
  | (hd, mv, tt, sp, fa, dr, dt, od, nx, ba, pl, tk, r), (hd', mv', tt', sp', fa', dr', dt', od', nx', ba', pl', tk', r') => hd = hd' ∧ mv = mv' ∧ tt = tt' ∧ sp = sp' ∧ fa = fa' ∧ dr = dr' ∧ dt = dt' ∧ nx = nx' ∧ ba = ba' ∧ pl = pl' ∧ tk = tk' ∧ r = r' ∧ ∀ i, i < pl → od i = od' i
section ZEqo
variable {cr n w nx ba pl tk : Nat} {wk se fl hd mv tt sp fa dr dt od od' : ZA} {r r0 : Int64}
theorem zup_od (h : ∀ i, i < pl → od i = od' i) (x : Int32) : ∀ i, i < pl + 1 → upd od pl x i = upd od' pl x i := fun i hi => by
  by_cases e : i = pl
  · rw [e, pk_us, pk_us]
  · rw [pk_un e, pk_un e]; exact h i (by omega)
theorem zeqo_work (h : ∀ i, i < pl → od i = od' i) : zeqo (zwork cr wk se fl w r (hd, mv, tt, sp, fa, dr, dt, od, nx, ba, pl, tk, r0)) (zwork cr wk se fl w r (hd, mv, tt, sp, fa, dr, dt, od', nx, ba, pl, tk, r0)) := by
  simp only [zwork]
  by_cases c1 : tt (hd w).toNatClampNeg + 1 < wk (hd w).toNatClampNeg
  · rw [if_pos c1, if_pos c1]; exact ⟨rfl, rfl, rfl, rfl, rfl, rfl, rfl, rfl, rfl, rfl, rfl, rfl, h⟩
  rw [if_neg c1, if_neg c1]
  by_cases c2 : fa (hd w).toNatClampNeg < fl (hd w).toNatClampNeg
  · rw [if_pos c2, if_pos c2]; exact ⟨rfl, rfl, rfl, rfl, rfl, rfl, rfl, rfl, rfl, rfl, rfl, rfl, h⟩
  rw [if_neg c2, if_neg c2]
  by_cases c3 : se (hd w).toNatClampNeg = 0
  · rw [if_pos c3, if_pos c3]; exact ⟨rfl, rfl, rfl, rfl, rfl, rfl, rfl, rfl, rfl, rfl, rfl, rfl, zup_od h _⟩
  · rw [if_neg c3, if_neg c3]; exact ⟨rfl, rfl, rfl, rfl, rfl, rfl, rfl, rfl, rfl, rfl, rfl, rfl, zup_od h _⟩
theorem zeqo_step {x y : ZS} (h : zeqo x y) : zeqo (zstep cr wk se fl x) (zstep cr wk se fl y) := by
  obtain ⟨hd, mv, tt, sp, fa, dr, dt, od, nx, ba, pl, tk, r⟩ := x
  obtain ⟨hd', mv', tt', sp', fa', dr', dt', od', nx', ba', pl', tk', r'⟩ := y
  obtain ⟨rfl, rfl, rfl, rfl, rfl, rfl, rfl, rfl, rfl, rfl, rfl, rfl, ho⟩ := h
  rw [zstep_of rfl, zstep_of rfl]
  by_cases c : hd (zwho cr hd nx ba (znext r)) = -1
  · rw [ztake_1 c, ztake_1 c]; exact zeqo_work ho
  · rw [ztake_0 c, ztake_0 c]; exact zeqo_work ho
theorem zeqo_mv {x y : ZS} (h : zeqo x y) : zmv cr x = zmv cr y := by
  obtain ⟨hd, mv, tt, sp, fa, dr, dt, od, nx, ba, pl, tk, r⟩ := x
  obtain ⟨hd', mv', tt', sp', fa', dr', dt', od', nx', ba', pl', tk', r'⟩ := y
  obtain ⟨rfl, rfl, rfl, rfl, rfl, rfl, rfl, rfl, rfl, rfl, rfl, rfl, ho⟩ := h
  rfl
theorem zeqo_iter : ∀ (k : Nat) (x y : ZS), zeqo x y → zeqo (ziter cr wk se fl k x) (ziter cr wk se fl k y) := by
  intro k
  induction k with
  | zero => intro x y h; exact h
  | succ k ih =>
    intro x y h
    have e := zeqo_mv (cr := cr) h
    simp only [ziter]
    by_cases c : zmv cr x = 0
    · rw [if_pos c, if_pos (by rw [← e]; exact c)]; exact h
    · rw [if_neg c, if_neg (by rw [← e]; exact c)]; exact ih _ _ (zeqo_step h)
end ZEqo
theorem zrth_0 {nw lim : Int32} {w k : Nat} (h1 : 1 ≤ w) (h2 : w ≤ 16) (e1 : nw = nI w) (h3 : k ≤ 10000) (e2 : lim = nI k) : zrth nw lim = 0 := by
  simp only [zrth]
  rw [if_neg]
  rintro (h | h | h | h)
  · rw [e1] at h; exact nI_nlt h1 (by omega) h
  · rw [e1] at h; exact nI_nlt h2 (by omega) h
  · rw [e2] at h; exact nI_pos (by omega) h
  · rw [e2] at h; exact nI_nlt h3 (by omega) h
section ZRun
variable {n w k w' k' : Nat} {wk se fl hd mv tt sp fa dr dt od hdm mvm ttm spm fam drm dtm odm od0 odm0 : ZA} {nx ba pl tk nxm bam plm tkm : Nat} {r rm sd : Int64} {nw lim : Int32}
theorem zrel_run (hn1 : 1 ≤ n) (hn : n ≤ 16) (hcfg : zcfg n wk fl) (h2 : w ≤ 16) (e1 : nw = nI w) (h3 : k ≤ 10000) (e2 : lim = nI k) (h5 : w' ≤ 16) (e3 : nw = nI w') (h6 : k' ≤ 10000) (e4 : lim = nI k')
    (hx : (hd, mv, tt, sp, fa, dr, dt, od, nx, ba, pl, tk, r) = ziter w wk se fl k (zbeg n od0 sd)) (hi : zinv n w (hd, mv, tt, sp, fa, dr, dt, od, nx, ba, pl, tk, r))
    (hy : (hdm, mvm, ttm, spm, fam, drm, dtm, odm, nxm, bam, plm, tkm, rm) = ziter w' wk se fl k' (zbeg n odm0 sd)) (hf : zfull n w' wk se fl (hdm, mvm, ttm, spm, fam, drm, dtm, odm, nxm, bam, plm, tkm, rm)) :
    zrel n (zkn w (hd, mv, tt, sp, fa, dr, dt, od, nx, ba, pl, tk, r)) w pl tk w' plm tkm wk fl fa tt sp mv dr dt od spm mvm drm dtm odm ∧ zkn w' (hdm, mvm, ttm, spm, fam, drm, dtm, odm, nxm, bam, plm, tkm, rm) = zkn w (hd, mv, tt, sp, fa, dr, dt, od, nx, ba, pl, tk, r) ∧ zrr se n w' (hdm, mvm, ttm, spm, fam, drm, dtm, odm, nxm, bam, plm, tkm, rm) = zrr se n w (hd, mv, tt, sp, fa, dr, dt, od, nx, ba, pl, tk, r) := by
  have ew : w = w' := (nI_eq (by omega) (by omega)).mp (e1.symm.trans e3)
  have ek : k = k' := (nI_eq (by omega) (by omega)).mp (e2.symm.trans e4)
  subst ew; subst ek
  have hq : zeqo (hd, mv, tt, sp, fa, dr, dt, od, nx, ba, pl, tk, r) (hdm, mvm, ttm, spm, fam, drm, dtm, odm, nxm, bam, plm, tkm, rm) := by
    rw [hx, hy]
    exact zeqo_iter k _ _ ⟨rfl, rfl, rfl, rfl, rfl, rfl, rfl, rfl, rfl, rfl, rfl, rfl, fun i hi => absurd hi (Nat.not_lt_zero _)⟩
  have em := zeqo_mv (cr := w) hq
  obtain ⟨rfl, rfl, rfl, rfl, rfl, rfl, rfl, rfl, rfl, rfl, rfl, rfl, ho⟩ := hq
  obtain ⟨i1, i2, i3, i4⟩ := hi
  obtain ⟨-, -, -, -, -, -, -, d8⟩ := hf
  refine ⟨⟨⟨hn1, hn, by simp only [zkn]; split <;> omega, h2, by omega, h2, by omega, hcfg⟩, fun _ => ⟨rfl, rfl, rfl, rfl, rfl, rfl, rfl, ho, d8⟩⟩, ?_, ?_⟩
  · simp only [zkn]; rw [em]
  · simp only [zrr]; rw [em]
end ZRun
