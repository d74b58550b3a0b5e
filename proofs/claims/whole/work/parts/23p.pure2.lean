/-- so many shares: 1 if it is below 1, 16 if it is above 16 -/
def zcp (x : Int32) : Nat := if x < 1 then 1 else if 16 < x then 16 else x.toNatClampNeg
theorem zcp_in (x : Int32) : 1 ≤ zcp x ∧ zcp x ≤ 16 := by
  rcases pk_ix x (n := 17) (by decide) with h | h | ⟨j, hj, rfl⟩
  · have h1 : x < 1 := Int32.lt_trans h (by decide)
    simp only [zcp]; rw [if_pos h1]; omega
  · have h1 : ¬ x < 1 := fun q => absurd (Int32.lt_of_le_of_lt h q) (by decide)
    have h2 : 16 < x := Int32.lt_of_lt_of_le (by decide) h
    simp only [zcp]; rw [if_neg h1, if_pos h2]; omega
  · revert j; decide
theorem z_clamp (sh : Int32) : (if nI 1 < (if sh < nI 16 then sh else nI 16) then (if sh < nI 16 then sh else nI 16) else nI 1) = nI (zcp sh) := by
  rcases pk_ix sh (n := 17) (by decide) with h | h | ⟨j, hj, rfl⟩
  · have h1 : sh < 1 := Int32.lt_trans h (by decide)
    have h2 : sh < nI 16 := Int32.lt_trans h (by decide)
    have h3 : ¬ nI 1 < sh := fun q => absurd (Int32.lt_trans q h) (by decide)
    simp only [zcp]; rw [if_pos h2, if_neg h3, if_pos h1]
  · have h1 : ¬ sh < 1 := fun q => absurd (Int32.lt_of_le_of_lt h q) (by decide)
    have h2 : ¬ sh < nI 16 := fun q => absurd (Int32.lt_of_le_of_lt h q) (by decide)
    have h3 : 16 < sh := Int32.lt_of_lt_of_le (by decide) h
    simp only [zcp]; rw [if_neg h2, if_neg h1, if_pos h3]; decide
  · revert j; decide
theorem z_crew {w : Nat} (h1 : 1 ≤ w) (h2 : w ≤ 16) : (if nI 1 < (if nI w < nI 16 then nI w else nI 16) then (if nI w < nI 16 then nI w else nI 16) else nI 1) = nI w := by
  have : ∀ w, w < 17 → 1 ≤ w → (if nI 1 < (if nI w < nI 16 then nI w else nI 16) then (if nI w < nI 16 then nI w else nI 16) else nI 1) = nI w := by decide
  exact this w (by omega) h1
/-- how many shares are counted -/
def zlast (se : ZA) (n : Nat) : Nat := if zwin se n < n then zwin se n + 1 else n
/-- the ANSWER -/
def zans (se : ZA) (wo : Nat → Int64) (n : Nat) : Int64 := if zwin se n < n then wo (zwin se n) else zsum wo n
theorem z_fillstep {f9 : ZA} {v : Int32} {k : Nat} (hz : ∀ i, i < k → f9 i = v) : ∀ i, i < k + 1 → upd f9 k v i = v := fun i hi => by
  by_cases q : i = k
  · rw [q, pk_us]
  · rw [pk_un q]; exact hz i (by omega)
