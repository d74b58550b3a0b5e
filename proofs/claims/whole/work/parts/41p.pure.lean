theorem zcnt_m1 {k : Nat} : zcnt (fun _ => (-1 : Int32)) k = 0 := by
  induction k with
  | zero => rfl
  | succ k ih => simp only [zcnt]; rw [ih]; rfl
theorem z_tab {x : Int32} (h0 : ¬ x = nI 0) (h1 : ¬ x = nI 1) (h2 : ¬ x = nI 2) : x.toInt < 0 ∨ 2 < x.toInt := by
  rcases pk_ix x (n := 3) (by decide) with h | h | ⟨j, hj, rfl⟩
  · exact Or.inl (by rw [Int32.lt_iff_toInt_lt] at h; exact h)
  · refine Or.inr ?_
    rw [Int32.le_iff_toInt_le, nI_toInt (by decide)] at h
    omega
  · exfalso
    rcases (show j = 0 ∨ j = 1 ∨ j = 2 by omega) with rfl | rfl | rfl
    · exact h0 rfl
    · exact h1 rfl
    · exact h2 rfl
theorem zvo_le {n : Nat} {wk : ZA} {wo : Nat → Int64} {se : ZA} {sh w : Int32} {v : Int64} {b : Int32} : zvo n wk wo se sh w v b ≤ 1 := by simp only [zvo]; split <;> omega
theorem zfo_le {n : Nat} {fl : ZA} {sh w : Int32} : zfo n fl sh w ≤ 1 := by simp only [zfo]; split <;> omega
theorem z_lN0 {o : Nat} (hl : o ≤ 1) (h : nI o = 0) : lN o = 0 := by
  have : o = 0 := (nI_eq (b := 0) (by omega) (by decide)).mp h
  rw [this]; rfl
theorem z_lN1 {o : Nat} (hl : o ≤ 1) (h : ¬ nI o = 0) : lN o = 1 := by
  have : o = 1 := by
    have : ¬ o = 0 := fun z => h (by rw [z]; rfl)
    omega
  rw [this]; rfl
