/-- what the plan's numbers are -/
def zcfg (n : Nat) (wk fl : ZA) : Prop := ∀ j, j < n → ∃ a b : Nat, 1 ≤ a ∧ a ≤ 100 ∧ b ≤ 3 ∧ wk j = nI a ∧ fl j = nI b
/-- a share's ticks, tries and end -/
def zshr (wk fl fa tt sp dt : ZA) (j : Nat) : Prop := ∃ a b f t : Nat, 1 ≤ a ∧ a ≤ 100 ∧ b ≤ 3 ∧ wk j = nI a ∧ fl j = nI b ∧ fa j = nI f ∧ tt j = nI t ∧ t < a ∧ f ≤ b ∧ ((dt j = 0 ∧ sp j = nI (f * a + t)) ∨ (0 < dt j ∧ f = b ∧ t = 0 ∧ sp j = nI (a * (b + 1))))
/-- all that holds of a run at each tick -/
def zfull (n cr : Nat) (wk se fl : ZA) (x : ZS) : Prop := match x with
  | (hd, mv, tt, sp, fa, dr, dt, od, nx, ba, pl, tk, r) => zinv n cr (hd, mv, tt, sp, fa, dr, dt, od, nx, ba, pl, tk, r) ∧
    (∀ v w, v < cr → w < cr → hd v = hd w → hd v ≠ -1 → v = w) ∧
    (∀ w j, w < cr → j < n → hd w = nI j → dt j = 0 ∧ j ≤ ba) ∧
    (∀ j, nx ≤ j → j < n → dt j = 0) ∧
    (∀ j, j < nx → 0 < dt j ∨ (∃ w, w < cr ∧ hd w = nI j) ∨ ba < j) ∧
    (ba < n → ba < nx ∧ zsd se dt ba) ∧
    (∀ q, q < ba → ¬ zsd se dt q) ∧
    (∀ j, j < n → zshr wk fl fa tt sp dt j)
section ZFull
variable {cr n w j nx ba pl tk : Nat} {wk se fl hd mv tt sp fa dr dt od : ZA} {r r0 : Int64}
theorem zfull_beg (hn : n ≤ 16) (hc : zcfg n wk fl) : zfull n cr wk se fl (zbeg n od r) := by
  refine ⟨⟨Nat.zero_le _, Nat.le_refl _, fun w _ => Or.inl rfl, ?_⟩, ?_, ?_, fun _ _ _ => rfl, fun j hj => absurd hj (Nat.not_lt_zero _), fun h => absurd h (Nat.lt_irrefl _), ?_, ?_⟩
  · have : ∀ k, zcnt (fun _ => (-1 : Int32)) k = 0 := by
      intro k
      induction k with
      | zero => rfl
      | succ k ih => simp only [zcnt]; rw [ih]; rfl
    rw [this]; exact Nat.le_refl _
  · intro v w _ _ _ h; exact absurd rfl h
  · intro w j _ hj h; exact absurd h.symm (nI_nm1 (by omega))
  · intro q _ h; exact absurd (show (0 : Int32) < 0 from h.2) (by decide)
  · intro j hj
    obtain ⟨a, b, h1, h2, h3, h4, h5⟩ := hc j hj
    exact ⟨a, b, 0, 0, h1, h2, h3, h4, h5, rfl, rfl, by omega, Nat.zero_le _, Or.inl ⟨rfl, by rw [Nat.zero_mul]; rfl⟩⟩
theorem zfull_take (hn : n ≤ 16) (hw : w < cr) (hwt : hd w = -1 → nx < ba) (h : zfull n cr wk se fl (hd, mv, tt, sp, fa, dr, dt, od, nx, ba, pl, tk, r)) : zfull n cr wk se fl (ztake w (hd, mv, tt, sp, fa, dr, dt, od, nx, ba, pl, tk, r)) := by
  obtain ⟨h0, d1, d2, d4, d5, d6, d7, d8⟩ := h
  by_cases c : hd w = -1
  · have hb := hwt c
    have hz := zinv_take hn hw hwt h0
    rw [ztake_1 c] at hz ⊢
    obtain ⟨i1, i2, i3, i4⟩ := h0
    have hf : ∀ v, v < cr → hd v ≠ nI nx := fun v hv e => by
      rcases i3 v hv with q | ⟨i, hi, q⟩
      · rw [e] at q; exact nI_nm1 (by omega) q
      · rw [e] at q; have := (nI_eq (by omega) (by omega)).mp q; omega
    refine ⟨hz, fun u v hu hv e hne => ?_, fun v i hv hi e => ?_, fun i h1 h2 => d4 i (by omega) h2, fun i hi => ?_, fun q => ?_, d7, d8⟩
    · by_cases eu : u = w
      · by_cases ev : v = w
        · rw [eu, ev]
        · rw [eu, pk_us, pk_un ev] at e; exact absurd e.symm (hf v hv)
      · by_cases ev : v = w
        · rw [ev, pk_us, pk_un eu] at e; exact absurd e (hf u hu)
        · rw [pk_un eu, pk_un ev] at e; rw [pk_un eu] at hne; exact d1 u v hu hv e hne
    · by_cases ev : v = w
      · rw [ev, pk_us] at e
        have := (nI_eq (by omega) (by omega)).mp e
        subst this; exact ⟨d4 nx (Nat.le_refl _) (by omega), by omega⟩
      · rw [pk_un ev] at e; exact d2 v i hv hi e
    · rcases Nat.lt_or_eq_of_le (Nat.le_of_lt_succ hi) with h1 | h1
      · rcases d5 i h1 with q | ⟨v, hv, q⟩ | q
        · exact Or.inl q
        · refine Or.inr (Or.inl ⟨v, hv, ?_⟩)
          have : v ≠ w := fun z => by rw [z, c] at q; exact nI_nm1 (by omega) q.symm
          rw [pk_un this]; exact q
        · exact Or.inr (Or.inr q)
      · exact Or.inr (Or.inl ⟨w, hw, by rw [pk_us, h1]⟩)
    · have := (d6 q).1; omega
  · rw [ztake_0 c]; exact ⟨h0, d1, d2, d4, d5, d6, d7, d8⟩
theorem zshr_off {fa' tt' sp' dt' : ZA} {i : Nat} (h : zshr wk fl fa tt sp dt i) (h1 : fa' i = fa i) (h2 : tt' i = tt i) (h3 : sp' i = sp i) (h4 : dt' i = dt i) : zshr wk fl fa' tt' sp' dt' i := by
  obtain ⟨a, b, f, t, q1, q2, q3, q4, q5, q6, q7, q8, q9, q0⟩ := h
  exact ⟨a, b, f, t, q1, q2, q3, q4, q5, by rw [h1]; exact q6, by rw [h2]; exact q7, q8, q9, by rw [h3, h4]; exact q0⟩
theorem zsp_lt {a b f t : Nat} (h1 : 1 ≤ a) (hf : f ≤ b) (ht : t < a) : f * a + t + 1 < a * (b + 1) ↔ ¬ (f = b ∧ t + 1 = a) := by
  rw [Nat.mul_add, Nat.mul_one, Nat.mul_comm a b]
  rcases Nat.lt_or_eq_of_le hf with h | h
  · have h2 : (f + 1) * a ≤ b * a := Nat.mul_le_mul_right a h
    rw [Nat.add_mul, Nat.one_mul] at h2
    constructor
    · intro _ q; omega
    · intro _; omega
  · subst h
    constructor
    · intro h3 q; omega
    · intro q; have : t + 1 ≠ a := fun e => q ⟨rfl, e⟩; omega
theorem zsp_sm {a b f t : Nat} (h2 : a ≤ 100) (h3 : b ≤ 3) (hf : f ≤ b) (ht : t < a) : f * a + t + 1 < 2 ^ 31 ∧ a * (b + 1) < 2 ^ 31 := by
  have h4 : f * a ≤ 3 * 100 := Nat.mul_le_mul (by omega) h2
  have h5 : a * (b + 1) ≤ 100 * 4 := Nat.mul_le_mul h2 (by omega)
  omega
theorem zi_add1 (x : Nat) : nI x + 1 = nI (x + 1) := nI_1 x
theorem zfull_work (hn : n ≤ 16) (htk : tk < 10000) (hw : w < cr) (hcr : cr ≤ 16) (hc : hd w ≠ -1) (h : zfull n cr wk se fl (hd, mv, tt, sp, fa, dr, dt, od, nx, ba, pl, tk, r0)) : zfull n cr wk se fl (zwork cr wk se fl w r (hd, mv, tt, sp, fa, dr, dt, od, nx, ba, pl, tk, r0)) := by
  obtain ⟨h0, d1, d2, d4, d5, d6, d7, d8⟩ := h
  have hz := zinv_work (wk := wk) (se := se) (fl := fl) (r := r) hn hw hc h0
  obtain ⟨i1, i2, i3, i4⟩ := h0
  rcases i3 w hw with q | ⟨j, hj, q⟩
  · exact absurd q hc
  have hjn : j < n := by omega
  obtain ⟨e0, ejb⟩ := d2 w j hw hjn q
  obtain ⟨a, b, f, t, q1, q2, q3, q4, q5, q6, q7, q8, q9, qd⟩ := d8 j hjn
  have qsp : sp j = nI (f * a + t) := by
    rcases qd with qd | qd
    · exact qd.2
    · rw [e0] at qd; exact absurd qd.1 (by decide)
  have hsm := zsp_sm q2 q3 q9 q8
  by_cases c1 : tt j + 1 < wk j
  · rw [zwork_1 (by omega) q c1] at hz ⊢
    refine ⟨hz, d1, d2, d4, d5, d6, d7, fun i hi => ?_⟩
    by_cases e : i = j
    · subst e
      rw [q7, q4, zi_add1, nI_ltI (by omega) (by omega)] at c1
      exact ⟨a, b, f, t + 1, q1, q2, q3, q4, q5, q6, by rw [pk_us, q7, zi_add1], c1, q9, Or.inl ⟨e0, by rw [pk_us, qsp, zi_add1, Nat.add_assoc]⟩⟩
    · exact zshr_off (d8 i hi) rfl (pk_un e) (pk_un e) rfl
  have ht1 : t + 1 = a := by
    rw [q7, q4, zi_add1, nI_ltI (by omega) (by omega)] at c1; omega
  by_cases c2 : fa j < fl j
  · rw [zwork_2 (by omega) q c1 c2] at hz ⊢
    refine ⟨hz, d1, d2, d4, d5, d6, d7, fun i hi => ?_⟩
    by_cases e : i = j
    · subst e
      rw [q6, q5, nI_ltI (by omega) (by omega)] at c2
      refine ⟨a, b, f + 1, 0, q1, q2, q3, q4, q5, by rw [pk_us, q6, zi_add1], by rw [pk_us]; rfl, by omega, by omega, Or.inl ⟨e0, ?_⟩⟩
      rw [pk_us, qsp, zi_add1, Nat.add_mul, Nat.one_mul]
      congr 1; omega
    · exact zshr_off (d8 i hi) (pk_un e) (by rw [pk_un e, pk_un e]) (pk_un e) rfl
  have hfb : f = b := by
    rw [q6, q5, nI_ltI (by omega) (by omega)] at c2; omega
  have hpos : (0 : Int32) < nI (tk + 1) := by rw [← nI_0]; exact nI_lt (by omega) (by omega)
  have hsh : ∀ i, i < n → zshr wk fl fa (upd (upd tt j (tt j + 1)) j 0) (upd sp j (sp j + 1)) (upd dt j (nI (tk + 1))) i := fun i hi => by
    by_cases e : i = j
    · subst e
      refine ⟨a, b, f, 0, q1, q2, q3, q4, q5, q6, by rw [pk_us]; rfl, by omega, q9, Or.inr ⟨by rw [pk_us]; exact hpos, hfb, rfl, ?_⟩⟩
      rw [pk_us, qsp, zi_add1, hfb, Nat.mul_add, Nat.mul_one, Nat.mul_comm a b]
      congr 1; omega
    · exact zshr_off (d8 i hi) rfl (by rw [pk_un e, pk_un e]) (pk_un e) (pk_un e)
  have hoth : ∀ v i, v < cr → v ≠ w → i < n → hd v = nI i → i ≠ j := fun v i hv hne hi e z => by
    subst z
    exact hne (d1 v w hv hw (by rw [e, q]) (by rw [e]; exact nI_nm1 (by omega)))
  have g1 : ∀ u v, u < cr → v < cr → upd hd w (-1) u = upd hd w (-1) v → upd hd w (-1) u ≠ -1 → u = v := fun u v hu hv e hne => by
    have eu : u ≠ w := fun z => hne (by rw [z, pk_us])
    rw [pk_un eu] at hne e
    have ev : v ≠ w := fun z => by rw [z, pk_us] at e; exact hne e
    rw [pk_un ev] at e
    exact d1 u v hu hv e hne
  have g2 : ∀ v i, v < cr → i < n → upd hd w (-1) v = nI i → v ≠ w ∧ i ≠ j ∧ hd v = nI i := fun v i hv hi e => by
    have ev : v ≠ w := fun z => by rw [z, pk_us] at e; exact nI_nm1 (by omega) e.symm
    rw [pk_un ev] at e
    exact ⟨ev, hoth v i hv ev hi e, e⟩
  have g4 : ∀ i, nx ≤ i → i < n → upd dt j (nI (tk + 1)) i = 0 := fun i h1 h2 => by rw [pk_un (by omega)]; exact d4 i h1 h2
  have g5 : ∀ i, i < nx → 0 < upd dt j (nI (tk + 1)) i ∨ (∃ v, v < cr ∧ upd hd w (-1) v = nI i) ∨ ba < i := fun i hi => by
    by_cases e : i = j
    · subst e; exact Or.inl (by rw [pk_us]; exact hpos)
    · rw [pk_un e]
      rcases d5 i hi with z | ⟨v, hv, z⟩ | z
      · exact Or.inl z
      · refine Or.inr (Or.inl ⟨v, hv, ?_⟩)
        have ev : v ≠ w := fun y => by
          rw [y, q] at z
          exact e ((nI_eq (by omega) (by omega)).mp z).symm
        rw [pk_un ev]; exact z
      · exact Or.inr (Or.inr z)
  by_cases c3 : se j = 0
  · rw [zwork_3 (by omega) q c1 c2 c3] at hz ⊢
    refine ⟨hz, g1, fun v i hv hi e => ?_, g4, g5, fun z => ?_, fun i hi z => ?_, hsh⟩
    · obtain ⟨_, e2, e3⟩ := g2 v i hv hi e
      rw [pk_un e2]; exact d2 v i hv hi e3
    · obtain ⟨z1, z2⟩ := d6 z
      refine ⟨z1, z2.1, ?_⟩
      by_cases e : ba = j
      · rw [e, pk_us]; exact hpos
      · rw [pk_un e]; exact z2.2
    · by_cases e : i = j
      · subst e; exact z.1 c3
      · refine d7 i hi ⟨z.1, ?_⟩
        have := z.2; rw [pk_un e] at this; exact this
  · rw [zwork_4 (by omega) q c1 c2 c3] at hz ⊢
    have hdz : ∀ v, v < cr → zdrop (upd hd w (-1)) cr j v ≠ -1 → zdrop (upd hd w (-1)) cr j v = upd hd w (-1) v ∧ ¬ nI j < upd hd w (-1) v := fun v hv hne => by
      by_cases e : nI j < upd hd w (-1) v
      · exact absurd (by simp only [zdrop]; rw [if_pos ⟨hv, e⟩]) hne
      · exact ⟨by simp only [zdrop]; rw [if_neg (fun z => e z.2)], e⟩
    refine ⟨hz, fun u v hu hv e hne => ?_, fun v i hv hi e => ?_, g4, fun i hi => ?_, fun _ => ⟨hj, c3, by rw [pk_us]; exact hpos⟩, fun i hi z => ?_, hsh⟩
    · have k1 := hdz u hu hne
      have k2 := hdz v hv (by rw [← e]; exact hne)
      rw [k1.1, k2.1] at e; rw [k1.1] at hne
      exact g1 u v hu hv e hne
    · have k1 := hdz v hv (by rw [e]; exact nI_nm1 (by omega))
      rw [k1.1] at e
      obtain ⟨_, e2, e3⟩ := g2 v i hv hi e
      rw [pk_un e2]
      refine ⟨(d2 v i hv hi e3).1, ?_⟩
      have := k1.2; rw [e, nI_ltI (by omega) (by omega)] at this; omega
    · rcases g5 i hi with z | ⟨v, hv, z⟩ | z
      · exact Or.inl z
      · by_cases e : nI j < upd hd w (-1) v
        · rw [z, nI_ltI (by omega) (by omega)] at e; exact Or.inr (Or.inr e)
        · exact Or.inr (Or.inl ⟨v, hv, by simp only [zdrop]; rw [if_neg (fun y => e y.2)]; exact z⟩)
      · exact Or.inr (Or.inr (by omega))
    · have e : i ≠ j := by omega
      refine d7 i (by omega) ⟨z.1, ?_⟩
      have := z.2; rw [pk_un e] at this; exact this
theorem zfull_step (hn : n ≤ 16) (hcr : cr ≤ 16) (htk : tk < 10000) (h : zfull n cr wk se fl (hd, mv, tt, sp, fa, dr, dt, od, nx, ba, pl, tk, r)) (hm : 0 < zmv cr (hd, mv, tt, sp, fa, dr, dt, od, nx, ba, pl, tk, r)) : zfull n cr wk se fl (zstep cr wk se fl (hd, mv, tt, sp, fa, dr, dt, od, nx, ba, pl, tk, r)) := by
  rw [zstep_of rfl]
  obtain ⟨h1, h2⟩ := zwho_ok (r0 := znext r) hm
  generalize zwho cr hd nx ba (znext r) = w at h1 h2 ⊢
  have hz := zfull_take hn h1 h2 h
  obtain ⟨⟨a, b, -, -⟩, -⟩ := h
  by_cases c : hd w = -1
  · have hb := h2 c
    rw [ztake_1 c] at hz ⊢
    exact zfull_work hn htk h1 hcr (by rw [pk_us]; exact nI_nm1 (by omega)) hz
  · rw [ztake_0 c] at hz ⊢
    exact zfull_work hn htk h1 hcr c hz
/-- which share waits -/
theorem zfull_waits (h : zfull n cr wk se fl (hd, mv, tt, sp, fa, dr, dt, od, nx, ba, pl, tk, r)) (hn : n ≤ 16) : (∀ q, q < nx → ¬ zwt se dt hd cr q) ∧ (nx < ba → nx < n ∧ zwt se dt hd cr nx) ∧ (ba ≤ nx → ∀ q, q < n → ¬ zwt se dt hd cr q) := by
  obtain ⟨⟨i1, i2, i3, i4⟩, d1, d2, d4, d5, d6, d7, d8⟩ := h
  have k1 : ∀ q, q < nx → ¬ zwt se dt hd cr q := fun q hq z => by
    rcases d5 q hq with y | ⟨v, hv, y⟩ | y
    · rw [z.1] at y; exact absurd y (by decide)
    · exact z.2.1 v hv y
    · exact z.2.2 ba y (d6 (by omega)).2
  refine ⟨k1, fun hb => ⟨by omega, d4 nx (Nat.le_refl _) (by omega), fun v hv e => ?_, fun q hq => d7 q (by omega)⟩, fun hb q hq => ?_⟩
  · rcases i3 v hv with y | ⟨i, hi, y⟩
    · rw [e] at y; exact nI_nm1 (by omega) y
    · rw [e] at y; have := (nI_eq (by omega) (by omega)).mp y; omega
  · rcases Nat.lt_or_ge q nx with h1 | h1
    · exact k1 q h1
    · intro z
      have hbn : ba < n := by omega
      have := (d6 hbn).1
      exact z.2.2 ba (by omega) (d6 hbn).2
end ZFull
/-- what the reference does with those behind a share -/
def zdrs (se hd : ZA) (k j : Nat) : ZA := if se j = 0 then hd else zdrop hd k j
theorem zdrs_0 {se hd : ZA} {j : Nat} : zdrs se hd 0 j = hd := by simp only [zdrs]; split; rfl; exact zdrop_0
theorem zdrs_a {se hd : ZA} {k j : Nat} (h : se j = 0) : zdrs se hd (k + 1) j = zdrs se hd k j := by simp only [zdrs]; rw [if_pos h, if_pos h]
theorem zdrs_b {se hd : ZA} {k j : Nat} (h : ¬ se j = 0) (h2 : ¬ nI j < zdrs se hd k j k) : zdrs se hd (k + 1) j = zdrs se hd k j := by
  simp only [zdrs] at h2 ⊢; rw [if_neg h] at h2; rw [if_neg h, if_neg h]; exact zdrop_stay h2
theorem zdrs_c {se hd : ZA} {k j : Nat} (h : ¬ se j = 0) (h2 : nI j < zdrs se hd k j k) : zdrs se hd (k + 1) j = upd (zdrs se hd k j) k (-1) := by
  simp only [zdrs] at h2 ⊢; rw [if_neg h] at h2; rw [if_neg h, if_neg h]; exact zdrop_step h2
section ZModel
variable {cr n w j nx ba pl tk n1 : Nat} {wk se fl hd mv tt sp fa dr dt od h1 : ZA} {r r0 : Int64}
/-- a tick, as the reference does it -/
theorem zstep_model (hn : n ≤ 16) (h : zfull n cr wk se fl (hd, mv, tt, sp, fa, dr, dt, od, nx, ba, pl, tk, r)) (hwho : zwho cr hd nx ba (znext r) = w) (hw : w < cr) (hwt : hd w = -1 → nx < ba)
    (hh1 : h1 = if hd w = -1 then upd hd w (nI nx) else hd) : ∃ j, h1 w = nI j ∧ j < n ∧ pl < 16 ∧
      (sp j + 1 < wk j * (fl j + 1) → ∃ tt2 fa2 n2, zstep cr wk se fl (hd, mv, tt, sp, fa, dr, dt, od, nx, ba, pl, tk, r) = (h1, upd mv w (mv w + 1), tt2, upd sp j (sp j + 1), fa2, dr, dt, od, n2, ba, pl, tk + 1, znext r)) ∧
      (¬ sp j + 1 < wk j * (fl j + 1) → ∃ tt2 n2 b2, zstep cr wk se fl (hd, mv, tt, sp, fa, dr, dt, od, nx, ba, pl, tk, r) = (zdrs se (upd h1 w (-1)) cr j, upd mv w (mv w + 1), tt2, upd sp j (sp j + 1), fa, upd dr j (nI w), upd dt j (nI (tk + 1)), upd od pl (nI j), n2, b2, pl + 1, tk + 1, znext r)) := by
  have hz := zfull_take hn hw hwt h
  have ht : ∃ n2, ztake w (hd, mv, tt, sp, fa, dr, dt, od, nx, ba, pl, tk, r) = (h1, mv, tt, sp, fa, dr, dt, od, n2, ba, pl, tk, r) ∧ h1 w ≠ -1 := by
    by_cases c : hd w = -1
    · rw [if_pos c] at hh1
      obtain ⟨⟨i1, i2, -, -⟩, -⟩ := h
      have := hwt c
      exact ⟨nx + 1, by rw [ztake_1 c, hh1], by rw [hh1, pk_us]; exact nI_nm1 (by omega)⟩
    · rw [if_neg c] at hh1
      exact ⟨nx, by rw [ztake_0 c, hh1], by rw [hh1]; exact c⟩
  obtain ⟨n2, ht, hne⟩ := ht
  rw [ht] at hz
  obtain ⟨⟨i1, i2, i3, i4⟩, d1, d2, d4, d5, d6, d7, d8⟩ := hz
  rcases i3 w hw with q | ⟨j, hj, q⟩
  · exact absurd q hne
  have hjn : j < n := by omega
  have e0 := (d2 w j hw hjn q).1
  obtain ⟨a, b, f, t, q1, q2, q3, q4, q5, q6, q7, q8, q9, qd⟩ := d8 j hjn
  have qsp : sp j = nI (f * a + t) := by
    rcases qd with qd | qd
    · exact qd.2
    · rw [e0] at qd; exact absurd qd.1 (by decide)
  have hsm := zsp_sm q2 q3 q9 q8
  have hiff : sp j + 1 < wk j * (fl j + 1) ↔ ¬ (f = b ∧ t + 1 = a) := by
    rw [qsp, q4, q5, nI_1, nI_1, pk_mul, nI_ltI hsm.1 hsm.2]
    exact zsp_lt q1 q9 q8
  have hc1 : tt j + 1 < wk j ↔ t + 1 < a := by rw [q7, q4, nI_1, nI_ltI (by omega) (by omega)]
  have hc2 : fa j < fl j ↔ f < b := by rw [q6, q5, nI_ltI (by omega) (by omega)]
  have hpl := zcnt_pos (f := h1) cr hw hne
  refine ⟨j, q, hjn, by omega, fun c => ?_, fun c => ?_⟩
  · rw [hiff] at c
    rw [zstep_of hwho, ht]
    by_cases c1 : tt j + 1 < wk j
    · exact ⟨_, _, _, zwork_1 (by omega) q c1⟩
    · have c2 : fa j < fl j := hc2.mpr (by rw [hc1] at c1; omega)
      exact ⟨_, _, _, zwork_2 (by omega) q c1 c2⟩
  · rw [hiff] at c
    have c' : f = b ∧ t + 1 = a := Decidable.not_not.mp c
    rw [zstep_of hwho, ht]
    have c1 : ¬ tt j + 1 < wk j := by rw [hc1]; omega
    have c2 : ¬ fa j < fl j := by rw [hc2]; omega
    by_cases c3 : se j = 0
    · exact ⟨_, _, _, by rw [zwork_3 (by omega) q c1 c2 c3]; simp only [zdrs]; rw [if_pos c3]⟩
    · exact ⟨_, _, _, by rw [zwork_4 (by omega) q c1 c2 c3]; simp only [zdrs]; rw [if_neg c3]⟩
end ZModel
theorem z_rng {x : Int32} {a b : Nat} (ha : a < 2 ^ 31) (hb : b < 2 ^ 31) (h1 : ¬ x < nI a) (h2 : ¬ nI b < x) : ∃ k, a ≤ k ∧ k ≤ b ∧ x = nI k := by
  obtain ⟨j, hj, rfl⟩ := nI_of (x := x) (fun h => h1 (Int32.lt_of_lt_of_le h (nI_pos' ha)))
  refine ⟨j, ?_, ?_, rfl⟩
  · exact Nat.le_of_not_lt (fun h => h1 (nI_lt h ha))
  · exact Nat.le_of_not_lt (fun h => h2 (nI_lt h hj))
theorem z_swapP {D : va_G} {cl : List vw_C} {ws : va_W} {aa i : Nat} {cA : ClassId} {n : Nat} {f : Nat → Int32} (g : Nat → Int32) {H : Heap} (he : ws[i]? = some (aa, .inl (cA, n, .inl f))) (h : ∀ j, j < n → f j = g j) (hP : va_P D cl ws H) : va_P D cl (ws.set i (aa, .inl (cA, n, .inl g))) H := by
  intro k q hq
  by_cases e : i = k
  · subst e
    have hi : i < ws.length := (List.getElem?_eq_some_iff.mp he).1
    rw [List.getElem?_set_self hi] at hq
    cases hq
    show H[aa]? = some (vp_cell cA (n, .inl g))
    rw [← z_cellI h]
    exact hP i _ he
  · rw [List.getElem?_set_ne e] at hq
    exact hP k q hq
theorem z_swapD {A : Nat → Prop} {ws : va_W} {aa i : Nat} {x : va_E} (y : va_E) (he : ws[i]? = some (aa, x)) (hD : va_D A ws) : va_D A (ws.set i (aa, y)) := by
  have key : ∀ (k : Nat) (q : Nat × va_E), (ws.set i (aa, y))[k]? = some q → ∃ z, ws[k]? = some (q.1, z) := fun k q hq => by
    by_cases e : i = k
    · subst e
      have hi : i < ws.length := (List.getElem?_eq_some_iff.mp he).1
      rw [List.getElem?_set_self hi] at hq
      cases hq
      exact ⟨x, he⟩
    · rw [List.getElem?_set_ne e] at hq
      exact ⟨q.2, hq⟩
  refine ⟨fun a b p q ha hb e => ?_, fun k q hk => ?_⟩
  · obtain ⟨z1, h1⟩ := key a p ha
    obtain ⟨z2, h2⟩ := key b q hb
    exact hD.1 a b (p.1, z1) (q.1, z2) h1 h2 e
  · obtain ⟨z, h1⟩ := key k q hk
    exact hD.2 k (q.1, z) h1
