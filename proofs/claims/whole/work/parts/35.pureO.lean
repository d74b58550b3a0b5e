/-- a place below n -/
abbrev zok (n : Nat) (sh : Int32) : Prop := ¬ sh < 0 ∧ ¬ nI n ≤ sh
theorem zok_yes {n j : Nat} (hn : n < 2 ^ 31) (hj : j < n) : zok n (nI j) := ⟨nI_pos (Nat.lt_trans hj hn), nI_ge hj hn⟩
theorem zok_no {n : Nat} {sh : Int32} (hn : n < 2 ^ 31) (h : ∀ j, j < n → sh ≠ nI j) : ¬ zok n sh := fun z => by
  obtain ⟨j, h1, h2⟩ := z_has hn z.1 z.2
  exact h j h1 h2
/-- how value, faults end: 0 as they should, 1 and 2 by the first and the second exception -/
def zvth (n : Nat) (sh w : Int32) : Nat := if zok n sh then (if w < nI 1 ∨ nI 100 < w then 2 else 0) else 1
def zfth (n : Nat) (sh w : Int32) : Nat := if zok n sh then (if w < 0 ∨ nI 3 < w then 2 else 0) else 1
theorem zvth_1 {n : Nat} {sh w : Int32} (hn : n < 2 ^ 31) (h : ∀ j, j < n → sh ≠ nI j) : zvth n sh w = 1 := by simp only [zvth]; rw [if_neg (zok_no hn h)]
theorem zvth_2 {n j : Nat} {w : Int32} (hn : n < 2 ^ 31) (hj : j < n) (h : w < nI 1 ∨ nI 100 < w) : zvth n (nI j) w = 2 := by simp only [zvth]; rw [if_pos (zok_yes hn hj), if_pos h]
theorem zvth_0 {n j : Nat} {w : Int32} (hn : n < 2 ^ 31) (hj : j < n) (h1 : ¬ w < nI 1) (h2 : ¬ nI 100 < w) : zvth n (nI j) w = 0 := by simp only [zvth]; rw [if_pos (zok_yes hn hj), if_neg (fun z => z.elim h1 h2)]
theorem zfth_1 {n : Nat} {sh w : Int32} (hn : n < 2 ^ 31) (h : ∀ j, j < n → sh ≠ nI j) : zfth n sh w = 1 := by simp only [zfth]; rw [if_neg (zok_no hn h)]
theorem zfth_2 {n j : Nat} {w : Int32} (hn : n < 2 ^ 31) (hj : j < n) (h : w < 0 ∨ nI 3 < w) : zfth n (nI j) w = 2 := by simp only [zfth]; rw [if_pos (zok_yes hn hj), if_pos h]
theorem zfth_0 {n j : Nat} {w : Int32} (hn : n < 2 ^ 31) (hj : j < n) (h1 : ¬ w < 0) (h2 : ¬ nI 3 < w) : zfth n (nI j) w = 0 := by simp only [zfth]; rw [if_pos (zok_yes hn hj), if_neg (fun z => z.elim h1 h2)]
/-- a row behind a call that ended so -/
def zup (t : Nat) (f : ZA) (k : Nat) (x : Int32) : ZA := if t = 0 then upd f k x else f
def zupL (t : Nat) (f : Nat → Int64) (k : Nat) (x : Int64) : Nat → Int64 := if t = 0 then vp_updL f k x else f
/-- whether something is another one -/
def zvo (n : Nat) (wk : ZA) (wo : Nat → Int64) (se : ZA) (sh w : Int32) (v : Int64) (b : Int32) : Nat := if zvth n sh w = 0 ∧ ¬ (wk sh.toNatClampNeg = w ∧ wo sh.toNatClampNeg = v ∧ se sh.toNatClampNeg = b) then 1 else 0
def zfo (n : Nat) (fl : ZA) (sh w : Int32) : Nat := if zfth n sh w = 0 ∧ ¬ fl sh.toNatClampNeg = w then 1 else 0
theorem zvo_t {n : Nat} {wk : ZA} {wo : Nat → Int64} {se : ZA} {sh w : Int32} {v : Int64} {b : Int32} (h : zvth n sh w ≠ 0) : zvo n wk wo se sh w v b = 0 := by simp only [zvo]; rw [if_neg (fun z => h z.1)]
theorem zvo_1 {n j : Nat} {wk : ZA} {wo : Nat → Int64} {se : ZA} {w : Int32} {v : Int64} {b : Int32} (hj : j < 2 ^ 31) (ht : zvth n (nI j) w = 0) (h : ¬ (wk j = w ∧ wo j = v ∧ se j = b)) : zvo n wk wo se (nI j) w v b = 1 := by simp only [zvo]; rw [nI_clamp hj, if_pos ⟨ht, h⟩]
theorem zvo_0 {n j : Nat} {wk : ZA} {wo : Nat → Int64} {se : ZA} {w : Int32} {v : Int64} {b : Int32} (hj : j < 2 ^ 31) (h : wk j = w ∧ wo j = v ∧ se j = b) : zvo n wk wo se (nI j) w v b = 0 := by simp only [zvo]; rw [nI_clamp hj, if_neg (fun z => z.2 h)]
theorem zfo_t {n : Nat} {fl : ZA} {sh w : Int32} (h : zfth n sh w ≠ 0) : zfo n fl sh w = 0 := by simp only [zfo]; rw [if_neg (fun z => h z.1)]
theorem zfo_1 {n j : Nat} {fl : ZA} {w : Int32} (hj : j < 2 ^ 31) (ht : zfth n (nI j) w = 0) (h : ¬ fl j = w) : zfo n fl (nI j) w = 1 := by simp only [zfo]; rw [nI_clamp hj, if_pos ⟨ht, h⟩]
theorem zfo_0 {n j : Nat} {fl : ZA} {w : Int32} (hj : j < 2 ^ 31) (h : fl j = w) : zfo n fl (nI j) w = 0 := by simp only [zfo]; rw [nI_clamp hj, if_neg (fun z => z.2 h)]
/-- whether all is known behind it -/
def zk2 (o kn : Nat) : Nat := if o = 1 then 0 else kn
/-- how a question ends -/
def zkc (kn : Nat) : Nat := if kn = 0 then 1 else 0
def zkc2 (kn m : Nat) (sh : Int32) : Nat := if kn = 0 then 1 else if zok m sh then 0 else 2
theorem zkc_0 {kn : Nat} (h : ¬ kn = 0) : zkc kn = 0 := by simp only [zkc]; rw [if_neg h]
theorem zkc_1 {kn : Nat} (h : kn = 0) : zkc kn = 1 := by simp only [zkc]; rw [if_pos h]
theorem zkc2_1 {kn m : Nat} {sh : Int32} (h : kn = 0) : zkc2 kn m sh = 1 := by simp only [zkc2]; rw [if_pos h]
theorem zkc2_2 {kn m : Nat} {sh : Int32} (h : ¬ kn = 0) (hm : m < 2 ^ 31) (h2 : ∀ j, j < m → sh ≠ nI j) : zkc2 kn m sh = 2 := by simp only [zkc2]; rw [if_neg h, if_neg (zok_no hm h2)]
theorem zkc2_0 {kn m j : Nat} (h : ¬ kn = 0) (hm : m < 2 ^ 31) (h2 : j < m) : zkc2 kn m (nI j) = 0 := by simp only [zkc2]; rw [if_neg h, if_pos (zok_yes hm h2)]
/-- what a question answers: a row's place; the same up to the winner alone -/
def zrd (t : Nat) (f : ZA) (sh : Int32) : Int32 := if t = 0 then f sh.toNatClampNeg else 0
def zsel (t z : Nat) (f : ZA) (d : Int32) (sh : Int32) : Int32 := if t = 0 then (if sh.toNatClampNeg ≤ z then f sh.toNatClampNeg else d) else 0
def zansk (kn : Nat) (se : ZA) (wo : Nat → Int64) (n : Nat) : Int64 := if kn = 0 then 0 else zans se wo n
def ztix (kn : Nat) (what : Int32) (cn : Int32) (tk : Nat) : Int32 := if kn = 0 then 0 else if what = 0 then cn else if what = nI 1 then nI tk - cn else if what = nI 2 then nI tk else -1
/-- how many tries failed, as the reference has it -/
def zmf (sp wk fl : ZA) : ZA := fun j => if sp j / wk j < fl j then sp j / wk j else fl j
theorem zsumI_cut (f : ZA) (m : Nat) : ∀ k, zsumI (fun s => if s ≤ m then f s else 0) k = zsumI f (min k (m + 1)) := by
  intro k
  induction k with
  | zero => rw [Nat.zero_min]; rfl
  | succ k ih =>
    simp only [zsumI]
    rw [ih]
    rcases Nat.lt_or_ge m k with h | h
    · rw [if_neg (by omega), Nat.min_eq_right (by omega), Nat.min_eq_right (by omega), Int32.add_zero]
    · rw [if_pos h, Nat.min_eq_left (by omega), Nat.min_eq_left (by omega)]; rfl
theorem zlast_min (se : ZA) (n : Nat) : zlast se n = min n (zwin se n + 1) := by
  have := zwin_le (se := se) (n := n)
  simp only [zlast]; split <;> omega
theorem zcp_lo {sh : Int32} (h : sh < 1) : nI 1 = nI (zcp sh) := by simp only [zcp]; rw [if_pos h]
theorem zcp_hi {sh : Int32} (h : ¬ sh < 1) (h2 : 16 < sh) : nI 16 = nI (zcp sh) := by simp only [zcp]; rw [if_neg h, if_pos h2]
theorem zcp_mid {sh : Int32} (h : ¬ sh < 1) (h2 : ¬ 16 < sh) : sh = nI (zcp sh) := by
  simp only [zcp]; rw [if_neg h, if_neg h2]
  obtain ⟨j, hj, rfl⟩ := nI_of (x := sh) (fun q => h (Int32.lt_trans q (by decide)))
  rw [nI_clamp hj]
