theorem wb_tb (n : Nat) : (lN n).toBitVec = BitVec.ofNat 64 n := rfl
theorem wb_inj {a b : Int64} (h : a.toBitVec = b.toBitVec) : a = b := Int64.toBitVec_inj.mp h
theorem wb_tn {n : Nat} (h : n < 2 ^ 64) : (lN n).toBitVec.toNat = n := by rw [wb_tb, BitVec.toNat_ofNat, Nat.mod_eq_of_lt h]
theorem wb_of (x : Int64) : ∃ n, n < 2 ^ 64 ∧ x = lN n := ⟨x.toBitVec.toNat, x.toBitVec.isLt, wb_inj (by rw [wb_tb]; simp)⟩
theorem wb_of32 (x : Int32) : ∃ n, n < 2 ^ 32 ∧ x = nI n := ⟨x.toBitVec.toNat, x.toBitVec.isLt, Int32.toBitVec_inj.mp (by show _ = BitVec.ofNat 32 _; simp)⟩
theorem wb_c : ∀ k, k < 64 → ((nI k).toInt64 &&& 63) = lN k := by decide +kernel
theorem wb_cu : ∀ k, k < 64 → ((nI k).toInt64.toUInt64 &&& Int64.toUInt64 63) = UInt64.ofNat k := by decide +kernel
theorem wb_sm : ∀ k, k < 64 → (BitVec.ofNat 64 k).smod 64 = BitVec.ofNat 64 k := by decide +kernel
theorem wb_pw {a b : Nat} (h : a ≤ b) : 2 ^ b = 2 ^ a * 2 ^ (b - a) := by rw [← Nat.pow_add]; congr 1; omega
theorem wb_lt2 {a b : Nat} (h : a < b) : 2 ^ a < 2 ^ b := Nat.pow_lt_pow_right (by decide) h
theorem wb_mod (n : Nat) : lN n = lN (n % 2 ^ 64) := wb_inj (by rw [wb_tb, wb_tb]; apply BitVec.eq_of_toNat_eq; rw [BitVec.toNat_ofNat, BitVec.toNat_ofNat, Nat.mod_mod])
theorem wb_shr {n k : Nat} (hn : n < 2 ^ 64) (hk : k < 64) : ((lN n).toUInt64 >>> ((nI k).toInt64.toUInt64 &&& Int64.toUInt64 63)).toInt64 = lN (n / 2 ^ k) := by
  rw [wb_cu k hk]
  apply wb_inj
  apply BitVec.eq_of_toNat_eq
  show ((lN n).toUInt64 >>> UInt64.ofNat k).toNat = (BitVec.ofNat 64 _).toNat
  have h1 : (UInt64.ofNat k).toNat = k := by
    show (BitVec.ofNat 64 k).toNat = k
    rw [BitVec.toNat_ofNat, Nat.mod_eq_of_lt (by omega)]
  have h2 : (lN n).toUInt64.toNat = n := wb_tn hn
  rw [UInt64.toNat_shiftRight, h1, h2, Nat.mod_eq_of_lt hk, Nat.shiftRight_eq_div_pow, BitVec.toNat_ofNat, Nat.mod_eq_of_lt (Nat.lt_of_le_of_lt (Nat.div_le_self _ _) hn)]
theorem z_same {s : State} {D : va_G} {cl : List vw_C} {tys : List (ClassId × FieldType)} {ty : FieldType} (hK : va_K D cl tys s) (t0 : Nat) {t1 : Nat} {c1 c2 : ClassId} (h0 : tys[t0]? = some (c1, ty)) (h1 : tys[t1]? = some (c2, ty)) (ht : ty = .int ∨ ty = .long ∨ ty = .boolean) : c1 = c2 := by
  have a := (hK.2 t0 _ h0).2
  have b := (hK.2 t1 _ h1).2
  rcases ht with rfl | rfl | rfl <;> exact Option.some.inj (a.symm.trans b)
theorem z_neg {x : Int32} {n : Nat} (hn : n < 2 ^ 31) (h : x < 0) : ∀ j, j < n → x ≠ nI j := fun j hj e => by
  rw [e] at h; exact nI_pos (Nat.lt_trans hj hn) h
theorem z_big {x : Int32} {n : Nat} (hn : n < 2 ^ 31) (h : nI n ≤ x) : ∀ j, j < n → x ≠ nI j := fun j hj e => by
  rw [e] at h; exact nI_ge hj hn h
theorem z_has {x : Int32} {n : Nat} (hn : n < 2 ^ 31) (h0 : ¬ x < 0) (h : ¬ nI n ≤ x) : ∃ j, j < n ∧ x = nI j := by
  obtain ⟨j, h1, h2, -⟩ := pk_mu h0 h hn
  exact ⟨j, h1, h2⟩
theorem z_nlt0 {j : Nat} (hj : j < 2 ^ 31) : ¬ nI j < nI 0 := by rw [nI_0]; exact nI_pos hj
/-- the least place from i on, below i + k, whose mark isn't 0; i + k without one -/
def zw (se : Nat → Int32) : Nat → Nat → Nat
  | 0, i => i
  | k + 1, i => if se i = 0 then zw se k (i + 1) else i
/-- the WINNER: n without one -/
def zwin (se : Nat → Int32) (n : Nat) : Nat := zw se n 0
theorem zw_at {se : Nat → Int32} : ∀ (k i j : Nat), i ≤ j → j < i + k → (∀ q, i ≤ q → q < j → se q = 0) → se j ≠ 0 → zw se k i = j := by
  intro k
  induction k with
  | zero => intro i j h1 h2; omega
  | succ k ih =>
    intro i j h1 h2 hz hj
    rcases Nat.eq_or_lt_of_le h1 with e | h
    · subst e; simp only [zw]; rw [if_neg hj]
    · simp only [zw]; rw [if_pos (hz i (Nat.le_refl _) h)]
      exact ih (i + 1) j h (by omega) (fun q a b => hz q (by omega) b) hj
theorem zw_no {se : Nat → Int32} : ∀ (k i : Nat), (∀ q, i ≤ q → q < i + k → se q = 0) → zw se k i = i + k := by
  intro k
  induction k with
  | zero => intro i _; rfl
  | succ k ih =>
    intro i hz
    simp only [zw]; rw [if_pos (hz i (Nat.le_refl _) (by omega)), ih (i + 1) (fun q a b => hz q (by omega) (by omega))]; omega
theorem zw_le {se : Nat → Int32} : ∀ (k i : Nat), i ≤ zw se k i ∧ zw se k i ≤ i + k ∧ (∀ q, i ≤ q → q < zw se k i → se q = 0) ∧ (zw se k i < i + k → se (zw se k i) ≠ 0) := by
  intro k
  induction k with
  | zero => intro i; simp only [zw]; exact ⟨Nat.le_refl _, Nat.le_refl _, fun q a b => by omega, fun h => by omega⟩
  | succ k ih =>
    intro i
    by_cases h : se i = 0
    · have e : zw se (k + 1) i = zw se k (i + 1) := by simp only [zw]; rw [if_pos h]
      obtain ⟨a, b, c, d⟩ := ih (i + 1)
      rw [e]
      refine ⟨by omega, by omega, fun q h1 h2 => ?_, fun h1 => d (by omega)⟩
      rcases Nat.eq_or_lt_of_le h1 with e | h3
      · rw [← e]; exact h
      · exact c q h3 h2
    · have e : zw se (k + 1) i = i := by simp only [zw]; rw [if_neg h]
      rw [e]; exact ⟨Nat.le_refl _, by omega, fun q a b => by omega, fun _ => h⟩
theorem zwin_at {se : Nat → Int32} {n j : Nat} (h : j < n) (hz : ∀ q, q < j → se q = 0) (hj : se j ≠ 0) : zwin se n = j := zw_at n 0 j (Nat.zero_le _) (by omega) (fun q _ b => hz q b) hj
theorem zwin_no {se : Nat → Int32} {n : Nat} (hz : ∀ q, q < n → se q = 0) : zwin se n = n := by
  have := zw_no (se := se) n 0 (fun q _ b => hz q (by omega))
  rw [Nat.zero_add] at this; exact this
theorem zwin_le {se : Nat → Int32} {n : Nat} : zwin se n ≤ n := by have := (zw_le (se := se) n 0).2.1; rw [Nat.zero_add] at this; exact this
theorem zwin_z {se : Nat → Int32} {n : Nat} : ∀ q, q < zwin se n → se q = 0 := fun q h => (zw_le (se := se) n 0).2.2.1 q (Nat.zero_le _) h
theorem zwin_s {se : Nat → Int32} {n : Nat} (h : zwin se n < n) : se (zwin se n) ≠ 0 := (zw_le (se := se) n 0).2.2.2 (by rw [Nat.zero_add]; exact h)
def zsum (f : Nat → Int64) : Nat → Int64
  | 0 => 0
  | k + 1 => zsum f k + f k
def zsumI (f : Nat → Int32) : Nat → Int32
  | 0 => 0
  | k + 1 => zsumI f k + f k
/-- how many places below k don't hold -1 -/
def zcnt (f : Nat → Int32) : Nat → Nat
  | 0 => 0
  | k + 1 => zcnt f k + (if f k = -1 then 0 else 1)
theorem zcnt_le (f : Nat → Int32) : ∀ k, zcnt f k ≤ k := by
  intro k
  induction k with
  | zero => exact Nat.le_refl _
  | succ k ih => simp only [zcnt]; split <;> omega
theorem zcnt_eq {f g : Nat → Int32} : ∀ k, (∀ j, j < k → (f j = -1 ↔ g j = -1)) → zcnt f k = zcnt g k := by
  intro k
  induction k with
  | zero => intro _; rfl
  | succ k ih =>
    intro h
    simp only [zcnt]
    rw [ih (fun j hj => h j (by omega))]
    have := h k (by omega)
    by_cases q : f k = -1
    · rw [if_pos q, if_pos (this.mp q)]
    · rw [if_neg q, if_neg (fun z => q (this.mpr z))]
theorem zcnt_off {f : Nat → Int32} {w : Nat} : ∀ k, w < k → f w ≠ -1 → zcnt f k = zcnt (upd f w (-1)) k + 1 := by
  intro k
  induction k with
  | zero => intro h; omega
  | succ k ih =>
    intro h hw
    simp only [zcnt]
    rcases Nat.eq_or_lt_of_le (Nat.le_of_lt_succ h) with e | h1
    · subst e
      rw [pk_us, if_neg hw, if_pos rfl]
      rw [zcnt_eq (f := f) (g := upd f w (-1)) w (fun j hj => by rw [pk_un (by omega)])]
    · rw [ih h1 hw, pk_un (f := f) (k := w) (j := k) (by omega)]; omega
theorem zcnt_on {f : Nat → Int32} {w : Nat} {x : Int32} (hx : x ≠ -1) : ∀ k, w < k → f w = -1 → zcnt (upd f w x) k = zcnt f k + 1 := by
  intro k
  induction k with
  | zero => intro h; omega
  | succ k ih =>
    intro h hw
    simp only [zcnt]
    rcases Nat.eq_or_lt_of_le (Nat.le_of_lt_succ h) with e | h1
    · subst e
      rw [pk_us, if_pos hw, if_neg hx]
      rw [zcnt_eq (f := upd f w x) (g := f) w (fun j hj => by rw [pk_un (by omega)])]
    · rw [ih h1 hw, pk_un (f := f) (k := w) (j := k) (by omega)]; omega
theorem zcnt_pos {f : Nat → Int32} {w : Nat} : ∀ k, w < k → f w ≠ -1 → 1 ≤ zcnt f k := by
  intro k h1 h2
  rw [zcnt_off k h1 h2]; omega
theorem nI_nm1 {j : Nat} (h : j < 2 ^ 31) : nI j ≠ -1 := by
  intro e
  have h1 := nI_toInt h
  rw [e] at h1
  have h2 : (-1 : Int32).toInt = -1 := by decide
  omega
theorem z_updself {f : Nat → Int32} {j : Nat} {x : Int32} (h : f j = x) : upd f j x = f := by
  funext k
  by_cases q : k = j
  · subst q; rw [pk_us, h]
  · rw [pk_un q]
/-! THE RUN, as numbers and rows: x = (held, moves, ticks of the try, spent, failures, doer, done tick, order, next, barrier, places, tick, r) -/
abbrev ZA : Type := Nat → Int32
abbrev ZS : Type := ZA × ZA × ZA × ZA × ZA × ZA × ZA × ZA × Nat × Nat × Nat × Nat × Int64
/-- those behind j have no share any more -/
def zdrop (hd : ZA) (cr j : Nat) : ZA := fun w => if w < cr ∧ nI j < hd w then -1 else hd w
/-- r's upper 31 bits modulo m -/
def zq (r : Int64) (m : Nat) : Nat := (r.toBitVec.toNat / 2 ^ 33) % m
def znext (r : Int64) : Int64 := r * 6364136223846793005 + 1442695040888963407
/-- the worker from i on that has a share and q others ahead of it -/
def zth (f : ZA) : Nat → Nat → Nat → Nat
  | 0, i, _ => i
  | k + 1, i, q => if f i = -1 then zth f k (i + 1) q else if q = 0 then i else zth f k (i + 1) (q - 1)
def zmv (cr : Nat) (x : ZS) : Nat := match x with
  | (hd, _, _, _, _, _, _, _, nx, ba, _, _, _) => if nx < ba then cr else zcnt hd cr
def zwho (cr : Nat) (hd : ZA) (nx ba : Nat) (r : Int64) : Nat := if nx < ba then zq r cr else zth hd cr 0 (zq r (zcnt hd cr))
/-- a tick of the worker w, behind the taking of a share -/
def zwork (cr : Nat) (wk se fl : ZA) (w : Nat) (r : Int64) (x : ZS) : ZS := match x with
  | (hd, mv, tt, sp, fa, dr, dt, od, nx, ba, pl, tk, _) =>
    let j := (hd w).toNatClampNeg
    if tt j + 1 < wk j then (hd, upd mv w (mv w + 1), upd tt j (tt j + 1), upd sp j (sp j + 1), fa, dr, dt, od, nx, ba, pl, tk + 1, r)
    else if fa j < fl j then (hd, upd mv w (mv w + 1), upd (upd tt j (tt j + 1)) j 0, upd sp j (sp j + 1), upd fa j (fa j + 1), dr, dt, od, nx, ba, pl, tk + 1, r)
    else if se j = 0 then (upd hd w (-1), upd mv w (mv w + 1), upd (upd tt j (tt j + 1)) j 0, upd sp j (sp j + 1), fa, upd dr j (nI w), upd dt j (nI (tk + 1)), upd od pl (nI j), nx, ba, pl + 1, tk + 1, r)
    else (zdrop (upd hd w (-1)) cr j, upd mv w (mv w + 1), upd (upd tt j (tt j + 1)) j 0, upd sp j (sp j + 1), fa, upd dr j (nI w), upd dt j (nI (tk + 1)), upd od pl (nI j), nx, j, pl + 1, tk + 1, r)
def ztake (w : Nat) (x : ZS) : ZS := match x with
  | (hd, mv, tt, sp, fa, dr, dt, od, nx, ba, pl, tk, r) => if hd w = -1 then (upd hd w (nI nx), mv, tt, sp, fa, dr, dt, od, nx + 1, ba, pl, tk, r) else x
def zstep (cr : Nat) (wk se fl : ZA) (x : ZS) : ZS := match x with
  | (hd, _, _, _, _, _, _, _, nx, ba, _, _, r) => zwork cr wk se fl (zwho cr hd nx ba (znext r)) (znext r) (ztake (zwho cr hd nx ba (znext r)) x)
def ziter (cr : Nat) (wk se fl : ZA) : Nat → ZS → ZS
  | 0, x => x
  | k + 1, x => if zmv cr x = 0 then x else ziter cr wk se fl k (zstep cr wk se fl x)
def zbeg (n : Nat) (od : ZA) (r : Int64) : ZS := (fun _ => -1, fun _ => 0, fun _ => 0, fun _ => 0, fun _ => 0, fun _ => -1, fun _ => 0, od, 0, n, 0, 0, r)
theorem zcnt_mono (f : ZA) (i : Nat) : ∀ k, zcnt f i ≤ zcnt f (i + k) := by
  intro k
  induction k with
  | zero => exact Nat.le_refl _
  | succ k ih => rw [← Nat.add_assoc]; simp only [zcnt]; omega
theorem zcnt_step {f : ZA} {i : Nat} (h : f i ≠ -1) : zcnt f (i + 1) = zcnt f i + 1 := by simp only [zcnt]; rw [if_neg h]
theorem zcnt_stay {f : ZA} {i : Nat} (h : f i = -1) : zcnt f (i + 1) = zcnt f i := by simp only [zcnt]; rw [if_pos h]; rfl
theorem zth_ok {f : ZA} : ∀ (k i q : Nat), zcnt f i + q < zcnt f (i + k) → i ≤ zth f k i q ∧ zth f k i q < i + k ∧ f (zth f k i q) ≠ -1 ∧ zcnt f (zth f k i q) = zcnt f i + q := by
  intro k
  induction k with
  | zero => intro i q h; exact absurd h (by rw [Nat.add_zero]; omega)
  | succ k ih =>
    intro i q h
    have h' : zcnt f i + q < zcnt f (i + 1 + k) := by rw [Nat.add_assoc, Nat.add_comm 1 k]; exact h
    by_cases c : f i = -1
    · have e : zth f (k + 1) i q = zth f k (i + 1) q := by simp only [zth]; rw [if_pos c]
      have s := zcnt_stay c
      obtain ⟨a, b, d, g⟩ := ih (i + 1) q (by rw [s]; exact h')
      rw [e]; exact ⟨by omega, by omega, d, by rw [g, s]⟩
    · have s := zcnt_step c
      by_cases c2 : q = 0
      · have e : zth f (k + 1) i q = i := by simp only [zth]; rw [if_neg c, if_pos c2]
        rw [e]; exact ⟨Nat.le_refl _, by omega, c, by omega⟩
      · have e : zth f (k + 1) i q = zth f k (i + 1) (q - 1) := by simp only [zth]; rw [if_neg c, if_neg c2]
        obtain ⟨a, b, d, g⟩ := ih (i + 1) (q - 1) (by omega)
        rw [e]; exact ⟨by omega, by omega, d, by omega⟩
theorem zth_is {f : ZA} {cr q w : Nat} (h1 : w < cr) (h2 : f w ≠ -1) (h3 : zcnt f w = q) : zth f cr 0 q = w := by
  have hq : zcnt f 0 + q < zcnt f (0 + cr) := by
    have := zcnt_mono f (w + 1) (cr - (w + 1))
    rw [zcnt_step h2, show w + 1 + (cr - (w + 1)) = cr by omega] at this
    rw [Nat.zero_add]; simp only [zcnt]; omega
  obtain ⟨-, b, d, g⟩ := zth_ok cr 0 q hq
  generalize zth f cr 0 q = v at b d g
  have g' : zcnt f v = q := by rw [g]; simp only [zcnt]; omega
  rcases Nat.lt_trichotomy v w with h | h | h
  · have := zcnt_mono f (v + 1) (w - (v + 1))
    rw [zcnt_step d, show v + 1 + (w - (v + 1)) = w by omega] at this
    omega
  · exact h
  · have := zcnt_mono f (w + 1) (v - (w + 1))
    rw [zcnt_step h2, show w + 1 + (v - (w + 1)) = v by omega] at this
    omega
theorem zth_in {f : ZA} {cr q : Nat} (h : q < zcnt f cr) : zth f cr 0 q < cr ∧ f (zth f cr 0 q) ≠ -1 ∧ zcnt f (zth f cr 0 q) = q := by
  obtain ⟨-, b, d, g⟩ := zth_ok (f := f) cr 0 q (by rw [Nat.zero_add]; simp only [zcnt]; omega)
  exact ⟨by omega, d, by rw [g]; simp only [zcnt]; omega⟩
theorem zq_lt {r : Int64} {m : Nat} (h : 0 < m) : zq r m < m := Nat.mod_lt _ h
theorem zdrop_cnt (f : ZA) (cr j : Nat) : ∀ k, zcnt (zdrop f cr j) k ≤ zcnt f k := by
  intro k
  induction k with
  | zero => exact Nat.le_refl _
  | succ k ih =>
    simp only [zcnt]
    by_cases c : f k = -1
    · have : zdrop f cr j k = -1 := by simp only [zdrop]; split <;> first | rfl | exact c
      rw [if_pos c, if_pos this]; omega
    · rw [if_neg c]; split <;> omega
/-- what holds of a run at each tick, as far as the class's own guards go -/
def zinv (n cr : Nat) (x : ZS) : Prop := match x with
  | (hd, _, _, _, _, _, _, _, nx, ba, pl, _, _) => nx ≤ n ∧ ba ≤ n ∧ (∀ w, w < cr → hd w = -1 ∨ ∃ j, j < nx ∧ hd w = nI j) ∧ pl + zcnt hd cr ≤ nx
section ZSteps
variable {cr n w j nx ba pl tk : Nat} {wk se fl hd mv tt sp fa dr dt od : ZA} {r r0 : Int64}
theorem zstep_of (h : zwho cr hd nx ba (znext r) = w) : zstep cr wk se fl (hd, mv, tt, sp, fa, dr, dt, od, nx, ba, pl, tk, r) = zwork cr wk se fl w (znext r) (ztake w (hd, mv, tt, sp, fa, dr, dt, od, nx, ba, pl, tk, r)) := by
  simp only [zstep]; rw [h]
theorem ztake_1 (h : hd w = -1) : ztake w (hd, mv, tt, sp, fa, dr, dt, od, nx, ba, pl, tk, r) = (upd hd w (nI nx), mv, tt, sp, fa, dr, dt, od, nx + 1, ba, pl, tk, r) := by
  simp only [ztake]; rw [if_pos h]
theorem ztake_0 (h : ¬ hd w = -1) : ztake w (hd, mv, tt, sp, fa, dr, dt, od, nx, ba, pl, tk, r) = (hd, mv, tt, sp, fa, dr, dt, od, nx, ba, pl, tk, r) := by
  simp only [ztake]; rw [if_neg h]
theorem zwork_1 (hj : j < 2 ^ 31) (e : hd w = nI j) (h : tt j + 1 < wk j) : zwork cr wk se fl w r (hd, mv, tt, sp, fa, dr, dt, od, nx, ba, pl, tk, r0) = (hd, upd mv w (mv w + 1), upd tt j (tt j + 1), upd sp j (sp j + 1), fa, dr, dt, od, nx, ba, pl, tk + 1, r) := by
  simp only [zwork]; rw [e, nI_clamp hj, if_pos h]
theorem zwork_2 (hj : j < 2 ^ 31) (e : hd w = nI j) (h : ¬ tt j + 1 < wk j) (h2 : fa j < fl j) : zwork cr wk se fl w r (hd, mv, tt, sp, fa, dr, dt, od, nx, ba, pl, tk, r0) = (hd, upd mv w (mv w + 1), upd (upd tt j (tt j + 1)) j 0, upd sp j (sp j + 1), upd fa j (fa j + 1), dr, dt, od, nx, ba, pl, tk + 1, r) := by
  simp only [zwork]; rw [e, nI_clamp hj, if_neg h, if_pos h2]
theorem zwork_3 (hj : j < 2 ^ 31) (e : hd w = nI j) (h : ¬ tt j + 1 < wk j) (h2 : ¬ fa j < fl j) (h3 : se j = 0) : zwork cr wk se fl w r (hd, mv, tt, sp, fa, dr, dt, od, nx, ba, pl, tk, r0) = (upd hd w (-1), upd mv w (mv w + 1), upd (upd tt j (tt j + 1)) j 0, upd sp j (sp j + 1), fa, upd dr j (nI w), upd dt j (nI (tk + 1)), upd od pl (nI j), nx, ba, pl + 1, tk + 1, r) := by
  simp only [zwork]; rw [e, nI_clamp hj, if_neg h, if_neg h2, if_pos h3]
theorem zwork_4 (hj : j < 2 ^ 31) (e : hd w = nI j) (h : ¬ tt j + 1 < wk j) (h2 : ¬ fa j < fl j) (h3 : ¬ se j = 0) : zwork cr wk se fl w r (hd, mv, tt, sp, fa, dr, dt, od, nx, ba, pl, tk, r0) = (zdrop (upd hd w (-1)) cr j, upd mv w (mv w + 1), upd (upd tt j (tt j + 1)) j 0, upd sp j (sp j + 1), fa, upd dr j (nI w), upd dt j (nI (tk + 1)), upd od pl (nI j), nx, j, pl + 1, tk + 1, r) := by
  simp only [zwork]; rw [e, nI_clamp hj, if_neg h, if_neg h2, if_neg h3]
/-- the mover is a worker, and where it has no share some share waits -/
theorem zwho_ok (hm : 0 < zmv cr (hd, mv, tt, sp, fa, dr, dt, od, nx, ba, pl, tk, r)) : zwho cr hd nx ba r0 < cr ∧ (hd (zwho cr hd nx ba r0) = -1 → nx < ba) := by
  simp only [zmv] at hm
  by_cases c : nx < ba
  · rw [if_pos c] at hm
    have e : zwho cr hd nx ba r0 = zq r0 cr := by simp only [zwho]; rw [if_pos c]
    rw [e]; exact ⟨zq_lt hm, fun _ => c⟩
  · rw [if_neg c] at hm
    have e : zwho cr hd nx ba r0 = zth hd cr 0 (zq r0 (zcnt hd cr)) := by simp only [zwho]; rw [if_neg c]
    obtain ⟨h1, h2, -⟩ := zth_in (f := hd) (cr := cr) (zq_lt (r := r0) hm)
    rw [e]; exact ⟨h1, fun h => absurd h h2⟩
theorem zinv_take (hn : n ≤ 16) (hw : w < cr) (hwt : hd w = -1 → nx < ba) (h : zinv n cr (hd, mv, tt, sp, fa, dr, dt, od, nx, ba, pl, tk, r)) : zinv n cr (ztake w (hd, mv, tt, sp, fa, dr, dt, od, nx, ba, pl, tk, r)) := by
  obtain ⟨h1, h2, h3, h4⟩ := h
  by_cases c : hd w = -1
  · rw [ztake_1 c]
    have hb := hwt c
    refine ⟨by omega, h2, fun v hv => ?_, ?_⟩
    · by_cases e : v = w
      · subst e; exact Or.inr ⟨nx, by omega, pk_us⟩
      · rw [pk_un e]
        rcases h3 v hv with q | ⟨i, hi, q⟩
        · exact Or.inl q
        · exact Or.inr ⟨i, by omega, q⟩
    · rw [zcnt_on (nI_nm1 (by omega)) cr hw c]; omega
  · rw [ztake_0 c]; exact ⟨h1, h2, h3, h4⟩
theorem zinv_work (hn : n ≤ 16) (hw : w < cr) (hc : hd w ≠ -1) (h : zinv n cr (hd, mv, tt, sp, fa, dr, dt, od, nx, ba, pl, tk, r0)) : zinv n cr (zwork cr wk se fl w r (hd, mv, tt, sp, fa, dr, dt, od, nx, ba, pl, tk, r0)) := by
  obtain ⟨h1, h2, h3, h4⟩ := h
  rcases h3 w hw with q | ⟨j, hj, q⟩
  · exact absurd q hc
  have hz := zcnt_off cr hw hc
  have hu : ∀ v, v < cr → upd hd w (-1) v = -1 ∨ ∃ i, i < nx ∧ upd hd w (-1) v = nI i := fun v hv => by
    by_cases e : v = w
    · subst e; exact Or.inl pk_us
    · rw [pk_un e]; exact h3 v hv
  by_cases c1 : tt j + 1 < wk j
  · rw [zwork_1 (by omega) q c1]; exact ⟨h1, h2, h3, h4⟩
  by_cases c2 : fa j < fl j
  · rw [zwork_2 (by omega) q c1 c2]; exact ⟨h1, h2, h3, h4⟩
  by_cases c3 : se j = 0
  · rw [zwork_3 (by omega) q c1 c2 c3]; exact ⟨h1, h2, hu, by omega⟩
  · rw [zwork_4 (by omega) q c1 c2 c3]
    refine ⟨h1, by omega, fun v hv => ?_, ?_⟩
    · by_cases e : nI j < upd hd w (-1) v
      · exact Or.inl (by simp only [zdrop]; rw [if_pos ⟨hv, e⟩])
      · have : zdrop (upd hd w (-1)) cr j v = upd hd w (-1) v := by simp only [zdrop]; rw [if_neg (fun z => e z.2)]
        rw [this]; exact hu v hv
    · have := zdrop_cnt (upd hd w (-1)) cr j cr; omega
end ZSteps
theorem z_nle {a b : Int32} (h : ¬ b ≤ a) : a < b := Int32.not_le.mp h
theorem z_nlt {a b : Int32} (h : b ≤ a) : ¬ a < b := Int32.not_lt.mpr h
theorem zdrop_0 {hd : ZA} {j : Nat} : zdrop hd 0 j = hd := by
  funext w; simp only [zdrop]; rw [if_neg (fun z => absurd z.1 (Nat.not_lt_zero _))]
theorem zdrop_at {hd : ZA} {k j : Nat} : zdrop hd k j k = hd k := by simp only [zdrop]; rw [if_neg (fun z => absurd z.1 (Nat.lt_irrefl _))]
theorem zdrop_stay {hd : ZA} {k j : Nat} (h : ¬ nI j < zdrop hd k j k) : zdrop hd (k + 1) j = zdrop hd k j := by
  rw [zdrop_at] at h
  funext w
  simp only [zdrop]
  by_cases c : w < k ∧ nI j < hd w
  · rw [if_pos c, if_pos ⟨by omega, c.2⟩]
  · rw [if_neg c]
    by_cases e : w = k
    · subst e; rw [if_neg (fun z => h z.2)]
    · rw [if_neg (fun z => c ⟨by omega, z.2⟩)]
theorem zdrop_step {hd : ZA} {k j : Nat} (h : nI j < zdrop hd k j k) : zdrop hd (k + 1) j = upd (zdrop hd k j) k (-1) := by
  rw [zdrop_at] at h
  funext w
  by_cases e : w = k
  · subst e; rw [pk_us]; simp only [zdrop]; rw [if_pos ⟨by omega, h⟩]
  · rw [pk_un e]; simp only [zdrop]
    by_cases c : w < k ∧ nI j < hd w
    · rw [if_pos c, if_pos ⟨by omega, c.2⟩]
    · rw [if_neg c, if_neg (fun z => c ⟨by omega, z.2⟩)]
def zmvs (cr ho nx ba : Nat) : Nat := if nx < ba then cr else ho
def zbh (hd : ZA) (cr nx ba q : Nat) : Nat := if nx < ba then q else zth hd cr 0 q
theorem zwho_zbh {cr nx ba : Nat} {hd : ZA} {r : Int64} : zwho cr hd nx ba r = zbh hd cr nx ba (zq r (zmvs cr (zcnt hd cr) nx ba)) := by
  by_cases c : nx < ba
  · simp only [zwho, zbh, zmvs]; rw [if_pos c, if_pos c, if_pos c]
  · simp only [zwho, zbh, zmvs]; rw [if_neg c, if_neg c, if_neg c]
theorem z_u31 (x : Int64) : x.toBitVec.toNat / 2 ^ 33 < 2 ^ 31 := by
  have := x.toBitVec.isLt
  omega
theorem z_ushr33 (x : Int64) : (x.toUInt64 >>> ((nI 33).toInt64.toUInt64 &&& Int64.toUInt64 63)).toInt64 = lN (x.toBitVec.toNat / 2 ^ 33) := by
  obtain ⟨n, hn, rfl⟩ := wb_of x
  rw [wb_shr hn (by decide), wb_tn hn]
section ZIter
variable {cr n w j nx ba pl tk : Nat} {wk se fl hd mv tt sp fa dr dt od : ZA} {r r0 : Int64}
theorem zinv_step (hn : n ≤ 16) (h : zinv n cr (hd, mv, tt, sp, fa, dr, dt, od, nx, ba, pl, tk, r)) (hm : 0 < zmv cr (hd, mv, tt, sp, fa, dr, dt, od, nx, ba, pl, tk, r)) : zinv n cr (zstep cr wk se fl (hd, mv, tt, sp, fa, dr, dt, od, nx, ba, pl, tk, r)) := by
  rw [zstep_of rfl]
  obtain ⟨h1, h2⟩ := zwho_ok (r0 := znext r) hm
  generalize zwho cr hd nx ba (znext r) = w at h1 h2 ⊢
  have hz := zinv_take hn h1 h2 h
  obtain ⟨a, b, -, -⟩ := h
  by_cases c : hd w = -1
  · have hb := h2 c
    rw [ztake_1 c] at hz ⊢
    exact zinv_work hn h1 (by rw [pk_us]; exact nI_nm1 (by omega)) hz
  · rw [ztake_0 c] at hz ⊢
    exact zinv_work hn h1 c hz
theorem ziter_end {x : ZS} (h : zmv cr x = 0) : ∀ k, ziter cr wk se fl k x = x := by
  intro k
  cases k with
  | zero => rfl
  | succ k => simp only [ziter]; rw [if_pos h]
theorem ziter_go {x : ZS} {k : Nat} (h : 0 < zmv cr x) : ziter cr wk se fl (k + 1) x = ziter cr wk se fl k (zstep cr wk se fl x) := by
  simp only [ziter]; rw [if_neg (by omega)]
end ZIter
theorem z_le0 {m : Nat} (hm : m < 2 ^ 31) (h : nI m ≤ 0) : m = 0 := by
  rcases Nat.eq_zero_or_pos m with e | e
  · exact e
  · exact absurd h (nI_nle e hm)
theorem z_nle0 {m : Nat} (h : ¬ nI m ≤ 0) : 0 < m := by
  rcases Nat.eq_zero_or_pos m with e | e
  · subst e; exact absurd (by rw [nI_0]; exact Int32.le_refl 0) h
  · exact e
theorem z_cellI {cA : ClassId} {n : Nat} {f g : Nat → Int32} (h : ∀ i, i < n → f i = g i) : vp_cell cA (n, .inl f) = vp_cell cA (n, .inl g) := by
  have e : (fun j : Fin n => Value.int (f j.val)) = fun j : Fin n => Value.int (g j.val) := funext fun j => by rw [h j.val j.isLt]
  show arrV cA n (fun j => .int (f j)) = arrV cA n (fun j => .int (g j))
  simp only [arrV]
  rw [e]
theorem z_fillP {D : va_G} {cl : List vw_C} {aa : Nat} {cA : ClassId} {n : Nat} {f g : Nat → Int32} {H : Heap} (h : ∀ i, i < n → f i = g i) (hP : va_P D cl [(aa, .inl (cA, n, .inl f))] H) : va_P D cl [(aa, .inl (cA, n, .inl g))] H := by
  intro k q hq
  match k, hq with
  | 0, hq =>
    cases hq
    show H[aa]? = some (vp_cell cA (n, .inl g))
    rw [← z_cellI h]
    exact hP 0 _ rfl
  | k + 1, hq => simp at hq
theorem z_fillD {A : Nat → Prop} {aa : Nat} {x y : va_E} (hD : va_D A [(aa, x)]) : va_D A [(aa, y)] := by
  refine ⟨fun i j p q hi hj _ => ?_, fun k q hk => ?_⟩
  · match i, j, hi, hj with
    | 0, 0, _, _ => rfl
    | 0, j + 1, _, hj => simp at hj
    | i + 1, _, hi, _ => simp at hi
  · match k, hk with
    | 0, hk => cases hk; exact hD.2 0 (aa, x) rfl
    | k + 1, hk => simp at hk
