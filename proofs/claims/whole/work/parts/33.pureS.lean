section ZWait
variable {cr n x nx ba pl tk : Nat} {wk se fl hd mv tt sp fa dr dt od : ZA} {r : Int64}
theorem zwaits1 (h : zfull n cr wk se fl (hd, mv, tt, sp, fa, dr, dt, od, nx, ba, pl, tk, r)) (hn : n ≤ 16) (hx : x < n) (hw : zwt se dt hd cr x) (hz : ∀ q, q < x → ¬ zwt se dt hd cr q) : nx < ba ∧ x = nx := by
  obtain ⟨k1, k2, k3⟩ := zfull_waits h hn
  have hb : nx < ba := by
    rcases Nat.lt_or_ge nx ba with q | q
    · exact q
    · exact absurd hw (k3 q x hx)
  refine ⟨hb, ?_⟩
  rcases Nat.lt_trichotomy x nx with q | q | q
  · exact absurd hw (k1 x q)
  · exact q
  · exact absurd (k2 hb).2 (hz nx q)
theorem zwaits2 (h : zfull n cr wk se fl (hd, mv, tt, sp, fa, dr, dt, od, nx, ba, pl, tk, r)) (hn : n ≤ 16) (hz : ∀ q, q < n → ¬ zwt se dt hd cr q) : ba ≤ nx := by
  obtain ⟨k1, k2, k3⟩ := zfull_waits h hn
  rcases Nat.lt_or_ge nx ba with q | q
  · exact absurd (k2 q).2 (hz nx (k2 q).1)
  · exact q
end ZWait
/-- what run answers, and whether it is known -/
def zrr (se : ZA) (n cr : Nat) (x : ZS) : Int32 := if zmv cr x = 0 then (if zwin se n < n then nI (zwin se n) else -1) else -2
def zkn (cr : Nat) (x : ZS) : Nat := if zmv cr x = 0 then 1 else 0
theorem zkn_1 {cr : Nat} {x : ZS} (h : zmv cr x = 0) : zkn cr x = 1 := by simp only [zkn]; rw [if_pos h]
theorem zkn_0 {cr : Nat} {x : ZS} (h : ¬ zmv cr x = 0) : zkn cr x = 0 := by simp only [zkn]; rw [if_neg h]
/-- a run that is refused -/
def zrth (nw lim : Int32) : Nat := if nw < nI 1 ∨ nI 16 < nw ∨ lim < 0 ∨ nI 10000 < lim then 1 else 0
