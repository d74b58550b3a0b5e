theorem z_arr {s : State} {args : Array Value} {ty : FieldType} (h : (Cond.arrayClass ty).before args s = true) : ∃ cA : ClassId, ArrOfT s cA ty ∧ s.vm.findClass ("[" ++ ty.toString) = some cA := by
  obtain ⟨cA, kA, comp, h1, h2, h3⟩ := Cond.arrayClass_spec h
  exact ⟨cA, fun n z => ⟨fun k h => (by cases h), kA, h2, comp, h3⟩, h1⟩
set_option maxRecDepth 100000 in
theorem z_Z0 {s : State} {b : Nat} (hts : ∀ w ∈ lw_tbl, w.before #[Value.ref b] s = true) (hgv : (Jvm.Cond.and given_1 narrow_1).before #[Value.ref b] s = true) : zZ (fun q : Nat => s.heap.size ≤ q) s s.heap := by
  have hs := flat_of_before _ hgv
  have h1 : ∀ w ∈ zNs, w ∈ lw_tbl := by decide +kernel
  have h2 : ∀ q ∈ zTx, Cond.stringRef "ShareRuns" q.1 q.2 ∈ lw_tbl := by decide +kernel
  have h3 : ∀ q ∈ zTx, Cond.exactly (.string "ShareRuns" q.1) "java/lang/String" ∈ flatC (Jvm.Cond.and given_1 narrow_1) := by decide +kernel
  have h4 : ∀ q ∈ zNp, Cond.not (.castable q.1 q.2) ∈ flatC (Jvm.Cond.and given_1 narrow_1) := by decide +kernel
  refine ⟨vx_Zqof (hts (.laysStatic "java/lang/Throwable" "UNASSIGNED_STACK" "[Ljava/lang/StackTraceElement;") (by decide +kernel)) (hts (.initialized "java/lang/Throwable") (by decide +kernel)) (hs (.isRef (.static "java/lang/Throwable" "UNASSIGNED_STACK" "[Ljava/lang/StackTraceElement;")) (by decide +kernel)) (fun a h => Nat.not_le.mpr h), vx_Zqof (hts (.laysStatic "java/lang/Throwable" "SUPPRESSED_SENTINEL" "Ljava/util/List;") (by decide +kernel)) (hts (.initialized "java/lang/Throwable") (by decide +kernel)) (hs (.isRef (.static "java/lang/Throwable" "SUPPRESSED_SENTINEL" "Ljava/util/List;")) (by decide +kernel)) (fun a h => Nat.not_le.mpr h), fun w hw => va_Nw.of (zNs_tab w hw) (hts w (h1 w hw)), fun q hq => ?_, fun q hq => va_Nc.of (hs _ (h4 q hq))⟩
  obtain ⟨a, _, _, _, q1, -⟩ := Cond.exactly_spec (args := #[Value.ref b]) (first := s) (o := none) (s := s) (idx := []) (t := .string "ShareRuns" q.1) (cls := "java/lang/String") (hs _ (h3 q hq))
  exact ⟨a, vk_R.of (hts _ (h2 q hq)) q1⟩
set_option maxHeartbeats 4000000 in
set_option maxRecDepth 100000 in
/-- THE LAW, from its entry -/
theorem whole_start {p : Program} {e : Env} {s : State} {m : MethodId} {below : List Frame} {meth : Method} {c : Code} (l : Launch) (hl9 : l.stackTraces = false) {b L : Nat} {xs : Nat → Int32} (hL : L ≤ 3073) (C0 : lw_At p s m meth c b L xs) : W p l e room_1 s m #[Value.ref b] below meth c s.heap [] 0 0 (lw_Z below #[Value.ref b] s) (entryFrame m ([Value.ref b] : List Value).toArray 8) := by
  obtain ⟨hx, hb, hr, hml, hown, hts, hX, hbl, hlocks, hgv⟩ := id C0
  have htz : ∀ q ∈ zG, q.before #[Value.ref b] s = true := fun q h => hts q (List.mem_filter.mp h).1
  obtain ⟨c0, iS0, hKn0⟩ := u_known (C := zR_P) (T := zF_P) (N := 5) (n := 5) htz zi_P (htz _ zq_22)
  obtain ⟨c1, iS1, hKn1⟩ := u_known (C := zR_Q) (T := zF_Q) (N := 16) (n := 16) htz zi_Q (htz _ zq_56)
  obtain ⟨c2, iS2, hKn2⟩ := u_known (C := zR_S) (T := zF_S) (N := 3) (n := 3) htz zi_S (htz _ zq_14)
  obtain ⟨c3, iS3, hKn3⟩ := u_known (C := zR_M) (T := zF_M) (N := 16) (n := 16) htz zi_M (htz _ zq_454)
  obtain ⟨cI, hI1, hI2⟩ := z_arr (htz _ zq_52)
  obtain ⟨cJ, hJ1, hJ2⟩ := z_arr (htz _ zq_53)
  obtain ⟨cZ, hZ1, hZ2⟩ := z_arr (htz _ zq_54)
  obtain ⟨dC, dI, hKc⟩ : ∃ (dC : Nat → ClassId) (dI : Nat → Nat → Nat), ∀ (k : Nat) (q : vw_C), zcl[k]? = some q → u_Kn s q.1 q.2.1 q.2.2 (dC k) (dI k) := by
    refine ⟨fun k => if k = 0 then c0 else if k = 1 then c1 else if k = 2 then c2 else c3, fun k => if k = 0 then iS0 else if k = 1 then iS1 else if k = 2 then iS2 else iS3, ?_⟩
    intro k q hq
    match k, hq with
    | 0, hq => cases hq; exact hKn0
    | 1, hq => cases hq; exact hKn1
    | 2, hq => cases hq; exact hKn2
    | 3, hq => cases hq; exact hKn3
    | k + 4, hq => simp [zcl] at hq
  have hK : va_K (dC, dI) zcl [(cI, .int), (cJ, .long), (cZ, .boolean)] s := by
    refine ⟨hKc, fun k q h => ?_⟩
    match k, h with
    | 0, h => cases h; exact ⟨hI1, hI2⟩
    | 1, h => cases h; exact ⟨hJ1, hJ2⟩
    | 2, h => cases h; exact ⟨hZ1, hZ2⟩
    | k + 3, h => simp at h
  have hl := lv_entry ([.ref b]) (n := 8) (Nat.le_of_ble_eq_true rfl)
  rw [lg_entry_eq]
  generalize (lg_sl ([.ref b]) ++ List.replicate (8 - (lg_sl ([.ref b])).length) Slot.unset).toArray = ls at hl ⊢
  exact law_start l hL C0 hl9 (fun q : Nat => s.heap.size ≤ q) (fun _ h => h) (Nat.not_le.mpr hbl) (z_Z0 hts hgv) dC dI cI cJ cZ hK (fun _ h => h) ls hl
