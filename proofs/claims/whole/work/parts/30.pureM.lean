/-- a share that settles and is done -/
def zsd (se dt : ZA) (q : Nat) : Prop := ¬ se q = 0 ∧ 0 < dt q
/-- a share that waits, as the document has it -/
def zwt (se dt hd : ZA) (cr x : Nat) : Prop := dt x = 0 ∧ (∀ w, w < cr → ¬ hd w = nI x) ∧ ∀ q, q < x → ¬ zsd se dt q
theorem z_all_up {P : Nat → Prop} {k : Nat} (h : ∀ q, q < k → ¬ P q) (hk : ¬ P k) : ∀ q, q < k + 1 → ¬ P q := fun q hq => (Nat.lt_or_eq_of_le (Nat.le_of_lt_succ hq)).elim (h q) (fun e => e ▸ hk)
theorem z_ex_up {P : Nat → Prop} {k : Nat} (h : ∃ q, q < k ∧ P q) : ∃ q, q < k + 1 ∧ P q := h.elim (fun q hq => ⟨q, by omega, hq.2⟩)
