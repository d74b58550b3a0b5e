/-- the words of a throw that no call keeps by itself -/
def zNs : List Cond := [.castable "java/lang/IndexOutOfBoundsException" "java/lang/IndexOutOfBoundsException", .castable "java/lang/IllegalArgumentException" "java/lang/IllegalArgumentException", .castable "java/lang/IllegalStateException" "java/lang/IllegalStateException", .declares ⟨"java/lang/RuntimeException", "<init>", "(Ljava/lang/String;)V"⟩, .declares ⟨"java/lang/Exception", "<init>", "(Ljava/lang/String;)V"⟩, .declares ⟨"java/lang/Throwable", "<init>", "(Ljava/lang/String;)V"⟩]
/-- pairs of which the first is none of the second -/
def zNp : List (String × String) := [("java/lang/IndexOutOfBoundsException", "java/lang/IllegalArgumentException"), ("java/lang/IndexOutOfBoundsException", "java/lang/IllegalStateException"), ("java/lang/IllegalArgumentException", "java/lang/IndexOutOfBoundsException"), ("java/lang/IllegalArgumentException", "java/lang/IllegalStateException"), ("java/lang/IllegalStateException", "java/lang/IndexOutOfBoundsException"), ("java/lang/IllegalStateException", "java/lang/IllegalArgumentException")]
/-- the texts that are thrown along -/
def zTx : List (Nat × String) := [(127, "no such share"), (36, "work is 1 to 100"), (49, "faults are 0 to 3"), (55, "workers are 1 to 16"), (57, "the limit is 0 to 10000"), (121, "nothing is known"), (89, "no such worker"), (99, "no such place")]
theorem zNs_tab : ∀ w ∈ zNs, w.onTables = true := by decide +kernel
/-- what a throw needs of the start -/
def zZ (A : Nat → Prop) (U : State) (H : Heap) : Prop := vx_Zq Bundle.tN "UNASSIGNED_STACK" Bundle.steD A U H ∧ vx_Zq Bundle.tN "SUPPRESSED_SENTINEL" Bundle.listD A U H ∧ (∀ w ∈ zNs, va_Nw w U) ∧ (∀ q ∈ zTx, ∃ sa, vk_R "ShareRuns" q.1 q.2 sa U) ∧ (∀ q ∈ zNp, va_Nc q.1 q.2 U)
theorem zZ_calling {A : Nat → Prop} {U : State} {g : JFrame} {mk : MethodId} {a : Array Value} (h : zZ A U U.heap) : zZ A (U.calling g mk a) (U.calling g mk a).heap :=
  ⟨vx_Zq.moved (u := U) (U := U.calling g mk a) (Vm.Alike.refl U.vm) h.1, vx_Zq.moved (u := U) (U := U.calling g mk a) (Vm.Alike.refl U.vm) h.2.1, fun w hw => va_Nw.same (zNs_tab w hw) (show U.vm = (U.calling g mk a).vm from rfl) (h.2.2.1 w hw), fun q hq => (h.2.2.2.1 q hq).elim (fun sa hs => ⟨sa, vk_R.same (show (U.calling g mk a).vm = U.vm from rfl) hs⟩), fun q hq => va_Nc.moved (u := U) (U := U.calling g mk a) (Vm.Alike.refl U.vm) (h.2.2.2.2 q hq)⟩
theorem zZ_warm {A B : Nat → Prop} {s U : State} {H : Heap} {locs : List Loc} (hW : s.WarmedH U.vm) (h : zZ A s s.heap) (hS : va_S A s.heap H locs) (hAB : ∀ q, B q → A q) : zZ B U H := by
  refine ⟨((vx_Zq.moved hW.alike h.1).kept (fun a ha hn => hS.2.1 a ha hn)).narrow hAB, ((vx_Zq.moved hW.alike h.2.1).kept (fun a ha hn => hS.2.1 a ha hn)).narrow hAB, fun w hw => ?_, fun q hq => (h.2.2.2.1 q hq).elim (fun sa hs => ⟨sa, vk_R.warm hW hs⟩), fun q hq => va_Nc.moved hW.alike (h.2.2.2.2 q hq)⟩
  have hz := h.2.2.1 w hw
  simp only [zNs, List.mem_cons, List.not_mem_nil, or_false] at hw
  rcases hw with rfl | rfl | rfl | rfl | rfl | rfl <;> first | exact va_Nw.warmC hW hz | exact va_Nw.warmD hW hz
section ZX
variable {p : Program} {l : Launch} {e : Env} {R : Room} {s : State} {m : MethodId} {args : Array Value} {below : List Frame} {meth : Method} {c : Code} {H : Heap} {locs : List Loc} {cells slots : Nat} {Q : State → Prop}
variable {cc : ByteArray} {pc : Nat} {ls : Array Slot} {rest st0 : List Value} {D : va_G} {cl : List vw_C} {A : Nat → Prop} {a : Nat} {tys : List (ClassId × FieldType)} {ws wc wr : va_W}
abbrev zPX (D : va_G) (cl : List vw_C) (tys : List (ClassId × FieldType)) (ws : va_W) (sz : Nat) (U : State) : Prop := zPre D cl tys ws sz U ∧ zZ (va_A ws sz) U U.heap
theorem z_blindX {av : List Value} {sz : Nat} : FrameBlind (va_Pc av (zPX D cl tys ws sz)) := fun a U g mk q => ⟨q.1, ⟨q.2.1.1, q.2.1.2.1, va_K.moved (u := U) (U := U.calling g mk a) (Vm.Alike.refl U.vm) q.2.1.2.2.1, q.2.1.2.2.2⟩, zZ_calling q.2.2⟩
/-- what is thrown, and the world then -/
abbrev zXC (D : va_G) (cl : List vw_C) (tys : List (ClassId × FieldType)) (px : String → va_W → Prop) (A : Nat → Prop) : String → State → State → Prop := vx_X (S := String × va_W) (fun u => px u.1 u.2) (fun E u t => E = u.1 ∧ zAt D cl tys A u.2 t) A
theorem z_throw {own cls text : String} {ik is ic mc ms : Nat} {Qc : Array Value → State → Outcome → State → Prop} {px : String → va_W → Prop} (hx : p.tables.exec = Jvm.exec) (hb : c.code = cc) (hl9 : l.stackTraces = false) (hown : s.vm.findClass own = some m.cls) (htz : ∀ q ∈ zG, q.before args s = true) (hZ : zZ A s s.heap)
    (hfit : Bundle.fit cls = true ∧ ∀ n ∈ ["java/lang/RuntimeException", "java/lang/Exception"], Bundle.fit n = true) (hk : Cond.classLink own ik cls ∈ zG) (hini : Cond.initialized cls ∈ zG) (hown2 : own = "ShareRuns") (htx : (is, text) ∈ zTx)
    (h1 : ∀ w ∈ (vx_atS own ic cls ["java/lang/RuntimeException", "java/lang/Exception"]).filter goodWord, w ∈ zG) (h2 : ∀ w ∈ (vx_atS own ic cls ["java/lang/RuntimeException", "java/lang/Exception"]).filter (fun w => !goodWord w), w ∈ zNs)
    (hgood : ∀ w ∈ Cond.classLink own ik cls :: Cond.initialized cls :: vx_atS own ic cls ["java/lang/RuntimeException", "java/lang/Exception"], vx_ot w = true)
    (hP : va_P D cl ws H) (hK : va_K D cl tys s) (hD : va_D A ws) (hS : va_S A s.heap H locs) (hsize : ls.size = c.maxLocals) (d0 : decode cc pc = .ok (.new ik, 3)) (d3 : decode cc (pc + 3) = .ok (.dup, 1)) (d4 : decode cc (pc + 4) = .ok (.ldc is, 2)) (d6 : decode cc (pc + 6) = .ok (.invokespecial ic, 3)) (d9 : decode cc (pc + 9) = .ok (.athrow, 1))
    (hno : ∀ x ∈ c.exceptionTable.toList, False) (hRf : 5 < R.frames) (hRl : (rest.map fun v => v.category).sum + 82 ≤ R.locals) (hRc : cells + 1 ≤ R.cells) (hRs : slots + 6 ≤ R.slots) (hlocks : meth.locks = false) (hc : cells + 1 ≤ mc) (hs : slots + 6 ≤ ms) (hp : px cls ws) :
    W p l e R s m args below meth c H locs cells slots (vx_MQ below Qc (zXC D cl tys px A) args s mc ms A) (F0 m pc ls rest) := by
  obtain ⟨sa, hsa⟩ := hZ.2.2.2.1 _ htx
  subst hown2
  exact vx_throwS (names := ["java/lang/RuntimeException", "java/lang/Exception"]) hx hb hl9 hown hfit.1 hfit.2 (htz _ hk) (htz _ hini) hsa (vx_hat (B := zNs) (fun w hw => htz w (h1 w hw)) h2 (fun w hw => va_Nw.use (zNs_tab w hw) (hZ.2.2.1 w hw))) hgood hZ.1 hZ.2.1 hS hsize d0 d3 d4 d6 d9 (fun x hx => (hno x hx).elim) hRf hRl hRc hRs hlocks
    (fun t ha hsz hk => ⟨(cls, ws), hp, ⟨rfl, hP.kept (fun k q hq => hk q.1 (hP k q hq).lt), va_K.moved ha hK, hD⟩, Nat.le_trans hS.1 hsz, fun q h1 h2 => (hk q (Nat.lt_of_lt_of_le h1 hS.1)).trans (hS.2.1 q h1 h2)⟩) hS.2.2 hc hs
theorem z_out {E : String} {ce : Cell} {q : Addr} {mc ms : Nat} {Qc : Array Value → State → Outcome → State → Prop} {px : String → va_W → Prop} (hP : va_P D cl ws H) (hK : va_K D cl tys s) (hD : va_D A ws) (hS : va_S A s.heap H locs) (hno : ∀ x ∈ c.exceptionTable.toList, False) (hlocks : meth.locks = false) (hce : H[q]? = some ce) (hcv : ce.vm = .none) (hcl : s.vm.findClass E = some ce.cls) (hc : cells ≤ mc) (hs : slots ≤ ms) (hp : px E ws) :
    vx_W p l e R s m args below meth c H locs cells slots (vx_MQ below Qc (zXC D cl tys px A) args s mc ms A) (F0 m pc ls rest) q :=
  vx_out (fun x hx => (hno x hx).elim) hlocks hce hcv hcl (fun t ht ha => ⟨(E, ws), hp, ⟨rfl, by rw [ht]; exact hP, va_K.moved ha hK, hD⟩, hS.F ht⟩) hS.2.2 hc hs
abbrev zXi (l : Launch) (y : MethodName) (w : List Cond) (rm : Room) (av : List Value) (D : va_G) (cl : List vw_C) (tys : List (ClassId × FieldType)) (ws : va_W) (sz : Nat) (post : Int32 → va_W → Prop) (px : String → va_W → Prop) : Prop := vx_Met l y w rm (va_Pc av (zPX D cl tys ws sz)) (va_Qi post (zAt D cl tys (va_A ws sz)) (va_A ws sz)) (zXC D cl tys px (va_A ws sz)) rm.cells rm.slots (va_A ws sz)
theorem z_ofXi {y : MethodName} {w : List Cond} {rm : Room} {av : List Value} {sz maxL : Nat} {post : Int32 → va_W → Prop} {px : String → va_W → Prop} {ret : Option FieldType} (hy : plainName y.cls = true) (hw : w = Cond.code y cc maxL ret :: zG) (hn : (lg_sl av).length ≤ maxL)
    (body : ∀ (p : Program) (e : Env) (s : State) (m : MethodId) (below : List Frame) (meth : Method) (c : Code) (A : Nat → Prop) (ls : Array Slot), p.tables.exec = Jvm.exec → c.code = cc → meth.sig.returnType = ret → c.maxLocals = maxL → s.vm.findClass y.cls = some m.cls → (∀ q ∈ zG, q.before av.toArray s = true) → meth.locks = false → meth.name = y.name → (∀ q, s.heap.size ≤ q → A q) → va_P D cl ws s.heap → va_K D cl tys s → va_D A ws → va_S A s.heap s.heap [] → lv_has ls maxL (lv_args 0 av) → zZ A s s.heap → (∀ x ∈ c.exceptionTable.toList, False) →
      W p l e rm s m av.toArray below meth c s.heap [] 0 0 (vx_MQ below (va_Qi post (zAt D cl tys A) A) (zXC D cl tys px A) av.toArray s rm.cells rm.slots A) (F0 m 0 ls [])) : zXi l y w rm av D cl tys ws sz post px := by
  refine vx_ofW (cc := cc) (maxL := maxL) (ret := ret) hy hw ?_
  intro p e s m args below meth c s₁ B hml hno hv
  obtain ⟨rfl, ⟨hsz, hP, hK, hD0⟩, hZ⟩ := hv
  have hD := hD0.self (sz := sz)
  have hl := lv_entry av (n := maxL) hn
  rw [lg_entry_eq]
  generalize (lg_sl av ++ List.replicate (maxL - (lg_sl av).length) Slot.unset).toArray = ls at hl ⊢
  exact body p e s m below meth c (va_A ws sz) ls B.exec B.bytes B.returns hml (findClass_of_methodNamed B.named) (fun q h => atoms_spec (ws := w) B.pre q (by rw [hw]; exact List.mem_cons_of_mem _ h)) B.notSynchronized (name_of_methodNamed B.named B.method).1 (fun q h => Or.inr (by omega)) hP hK hD va_S.rf hl hZ hno
theorem z_XVi {post : Int32 → va_W → Prop} {px : String → va_W → Prop} {y : MethodName} {bytes : ByteArray} {maxL nL n index b : Nat} {ret : Option FieldType} {w Ts : List Cond} {rm : Room} {own C : String} {T : u_T} {N : Nat} {fs As : List Value}
    (S : CallFix p m c cc nL s args Ts own) (hZ : zZ A s s.heap) (hK : va_K D cl tys s) (hP : va_P D cl ws H) (hD : va_D A ws) (hS : va_S A s.heap H locs) (hA : ∀ q, s.heap.size ≤ q → A q) (hM : zXi l y w rm (.ref b :: As) D cl tys wc H.size post px) (cw : CallW R s args own C index y bytes maxL ret w rm rm.cells rm.slots n)
    (q0 ci : Nat) (hcq : cl[ci]? = some (C, T, N)) (he : ws[q0]? = some (b, .inr (ci, fs))) (isC isR : List Nat) (hC1 : isC.filterMap (fun i => ws[i]?) = wc) (hC : isC.map (fun i => ws[i]?) = wc.map some) (hR : isR.map (fun i => ws[i]?) = wr.map some) (hn : va_nd isC = true ∧ va_nd isR = true ∧ ∀ i ∈ isR, i ∉ isC)
    (hAs : As.length = n) (hsz : ls.size = nL) (hst : st0 = As.reverse ++ .ref b :: rest) (hrm : (rest.map fun v => v.category).sum ≤ 8) (hdg : decode cc pc = .ok (.invokevirtual index, 3)) (hf : cells + rm.cells ≤ R.cells ∧ slots + rm.slots ≤ R.slots)
    (kx : ∀ (E : String) (ce : Cell) (q9 : Addr) (u : va_W) (H1 : Heap) (locs1 : List Loc), px E u → va_P D cl (wr ++ u) H1 → va_D A (wr ++ u) → va_S A s.heap H1 locs1 → H1[q9]? = some ce → ce.vm = .none → s.vm.findClass E = some ce.cls → vx_W p l e R s m args below meth c H1 locs1 (cells + rm.cells) (slots + rm.slots) Q (F0 m pc ls rest) q9)
    (kk : ∀ (r : Int32) (u : va_W) (H1 : Heap) (locs1 : List Loc), post r u → va_P D cl (wr ++ u) H1 → va_D A (wr ++ u) → va_S A s.heap H1 locs1 → W p l e R s m args below meth c H1 locs1 (cells + rm.cells) (slots + rm.slots) Q (F0 m (pc + 3) ls (.int r :: rest))) : W p l e R s m args below meth c H locs cells slots Q (F0 m pc ls st0) := by
  have hPc : va_P D cl wc H := hP.sub isC hC1
  have hDc : va_D A wc := hD.sub isC hn.1 hC
  have hFc := va_free hD hS hA isC hC
  refine vx_calli (vx_runV (As := As) (rest := rest) S hM cw ⟨z_blindX, va_recv hK hP hcq he, fun U hU hW => ⟨rfl, ⟨by rw [hU], by rw [hU]; exact hPc, va_K.moved hW.alike hK, hDc.weaken (fun _ _ _ _ => trivial)⟩, by rw [hU]; exact zZ_warm hW hZ hS hFc⟩⟩ rfl hAs hsz hst (lv_room hrm) hdg hf) hS (fun q _ h => hFc q h) hFc (fun q _ h => hFc q h) (fun E ce q9 u t H1 locs1 ht hvm hpx hB hz1 hk1 hS1 h1 h2 h3 => ?_) (fun r u t H1 locs1 ht hvm hw hB hz1 hk1 hS1 => ?_)
  · obtain ⟨hE, hP1, hK1, hD1⟩ := hB
    subst hE
    rw [ht] at hP1
    obtain ⟨hP2, hD2⟩ := va_join (wr := wr) (w1 := u.2) hP hD isC isR hC hR hn.2.1 hn.2.2 hk1 hFc hP1 hD1
    exact kx _ ce q9 u.2 H1 locs1 hpx hP2 hD2 hS1 h1 h2 h3
  · obtain ⟨hP1, hK1, hD1⟩ := hB
    rw [ht] at hP1
    obtain ⟨hP2, hD2⟩ := va_join (wr := wr) (w1 := u) hP hD isC isR hC hR hn.2.1 hn.2.2 hk1 hFc hP1 hD1
    exact kk r u H1 locs1 hw hP2 hD2 hS1
abbrev zXl (l : Launch) (y : MethodName) (w : List Cond) (rm : Room) (av : List Value) (D : va_G) (cl : List vw_C) (tys : List (ClassId × FieldType)) (ws : va_W) (sz : Nat) (post : Int64 → va_W → Prop) (px : String → va_W → Prop) : Prop := vx_Met l y w rm (va_Pc av (zPX D cl tys ws sz)) (va_Ql post (zAt D cl tys (va_A ws sz)) (va_A ws sz)) (zXC D cl tys px (va_A ws sz)) rm.cells rm.slots (va_A ws sz)
theorem z_ofXl {y : MethodName} {w : List Cond} {rm : Room} {av : List Value} {sz maxL : Nat} {post : Int64 → va_W → Prop} {px : String → va_W → Prop} {ret : Option FieldType} (hy : plainName y.cls = true) (hw : w = Cond.code y cc maxL ret :: zG) (hn : (lg_sl av).length ≤ maxL)
    (body : ∀ (p : Program) (e : Env) (s : State) (m : MethodId) (below : List Frame) (meth : Method) (c : Code) (A : Nat → Prop) (ls : Array Slot), p.tables.exec = Jvm.exec → c.code = cc → meth.sig.returnType = ret → c.maxLocals = maxL → s.vm.findClass y.cls = some m.cls → (∀ q ∈ zG, q.before av.toArray s = true) → meth.locks = false → meth.name = y.name → (∀ q, s.heap.size ≤ q → A q) → va_P D cl ws s.heap → va_K D cl tys s → va_D A ws → va_S A s.heap s.heap [] → lv_has ls maxL (lv_args 0 av) → zZ A s s.heap → (∀ x ∈ c.exceptionTable.toList, False) →
      W p l e rm s m av.toArray below meth c s.heap [] 0 0 (vx_MQ below (va_Ql post (zAt D cl tys A) A) (zXC D cl tys px A) av.toArray s rm.cells rm.slots A) (F0 m 0 ls [])) : zXl l y w rm av D cl tys ws sz post px := by
  refine vx_ofW (cc := cc) (maxL := maxL) (ret := ret) hy hw ?_
  intro p e s m args below meth c s₁ B hml hno hv
  obtain ⟨rfl, ⟨hsz, hP, hK, hD0⟩, hZ⟩ := hv
  have hD := hD0.self (sz := sz)
  have hl := lv_entry av (n := maxL) hn
  rw [lg_entry_eq]
  generalize (lg_sl av ++ List.replicate (maxL - (lg_sl av).length) Slot.unset).toArray = ls at hl ⊢
  exact body p e s m below meth c (va_A ws sz) ls B.exec B.bytes B.returns hml (findClass_of_methodNamed B.named) (fun q h => atoms_spec (ws := w) B.pre q (by rw [hw]; exact List.mem_cons_of_mem _ h)) B.notSynchronized (name_of_methodNamed B.named B.method).1 (fun q h => Or.inr (by omega)) hP hK hD va_S.rf hl hZ hno
theorem z_XVl {post : Int64 → va_W → Prop} {px : String → va_W → Prop} {y : MethodName} {bytes : ByteArray} {maxL nL n index b : Nat} {ret : Option FieldType} {w Ts : List Cond} {rm : Room} {own C : String} {T : u_T} {N : Nat} {fs As : List Value}
    (S : CallFix p m c cc nL s args Ts own) (hZ : zZ A s s.heap) (hK : va_K D cl tys s) (hP : va_P D cl ws H) (hD : va_D A ws) (hS : va_S A s.heap H locs) (hA : ∀ q, s.heap.size ≤ q → A q) (hM : zXl l y w rm (.ref b :: As) D cl tys wc H.size post px) (cw : CallW R s args own C index y bytes maxL ret w rm rm.cells rm.slots n)
    (q0 ci : Nat) (hcq : cl[ci]? = some (C, T, N)) (he : ws[q0]? = some (b, .inr (ci, fs))) (isC isR : List Nat) (hC1 : isC.filterMap (fun i => ws[i]?) = wc) (hC : isC.map (fun i => ws[i]?) = wc.map some) (hR : isR.map (fun i => ws[i]?) = wr.map some) (hn : va_nd isC = true ∧ va_nd isR = true ∧ ∀ i ∈ isR, i ∉ isC)
    (hAs : As.length = n) (hsz : ls.size = nL) (hst : st0 = As.reverse ++ .ref b :: rest) (hrm : (rest.map fun v => v.category).sum ≤ 8) (hdg : decode cc pc = .ok (.invokevirtual index, 3)) (hf : cells + rm.cells ≤ R.cells ∧ slots + rm.slots ≤ R.slots)
    (kx : ∀ (E : String) (ce : Cell) (q9 : Addr) (u : va_W) (H1 : Heap) (locs1 : List Loc), px E u → va_P D cl (wr ++ u) H1 → va_D A (wr ++ u) → va_S A s.heap H1 locs1 → H1[q9]? = some ce → ce.vm = .none → s.vm.findClass E = some ce.cls → vx_W p l e R s m args below meth c H1 locs1 (cells + rm.cells) (slots + rm.slots) Q (F0 m pc ls rest) q9)
    (kk : ∀ (r : Int64) (u : va_W) (H1 : Heap) (locs1 : List Loc), post r u → va_P D cl (wr ++ u) H1 → va_D A (wr ++ u) → va_S A s.heap H1 locs1 → W p l e R s m args below meth c H1 locs1 (cells + rm.cells) (slots + rm.slots) Q (F0 m (pc + 3) ls (.long r :: rest))) : W p l e R s m args below meth c H locs cells slots Q (F0 m pc ls st0) := by
  have hPc : va_P D cl wc H := hP.sub isC hC1
  have hDc : va_D A wc := hD.sub isC hn.1 hC
  have hFc := va_free hD hS hA isC hC
  refine vx_calll (vx_runV (As := As) (rest := rest) S hM cw ⟨z_blindX, va_recv hK hP hcq he, fun U hU hW => ⟨rfl, ⟨by rw [hU], by rw [hU]; exact hPc, va_K.moved hW.alike hK, hDc.weaken (fun _ _ _ _ => trivial)⟩, by rw [hU]; exact zZ_warm hW hZ hS hFc⟩⟩ rfl hAs hsz hst (lv_room hrm) hdg hf) hS (fun q _ h => hFc q h) hFc (fun q _ h => hFc q h) (fun E ce q9 u t H1 locs1 ht hvm hpx hB hz1 hk1 hS1 h1 h2 h3 => ?_) (fun r u t H1 locs1 ht hvm hw hB hz1 hk1 hS1 => ?_)
  · obtain ⟨hE, hP1, hK1, hD1⟩ := hB
    subst hE
    rw [ht] at hP1
    obtain ⟨hP2, hD2⟩ := va_join (wr := wr) (w1 := u.2) hP hD isC isR hC hR hn.2.1 hn.2.2 hk1 hFc hP1 hD1
    exact kx _ ce q9 u.2 H1 locs1 hpx hP2 hD2 hS1 h1 h2 h3
  · obtain ⟨hP1, hK1, hD1⟩ := hB
    rw [ht] at hP1
    obtain ⟨hP2, hD2⟩ := va_join (wr := wr) (w1 := u) hP hD isC isR hC hR hn.2.1 hn.2.2 hk1 hFc hP1 hD1
    exact kk r u H1 locs1 hw hP2 hD2 hS1
abbrev zXv (l : Launch) (y : MethodName) (w : List Cond) (rm : Room) (av : List Value) (D : va_G) (cl : List vw_C) (tys : List (ClassId × FieldType)) (ws : va_W) (sz : Nat) (post : va_W → Prop) (px : String → va_W → Prop) : Prop := vx_Met l y w rm (va_Pc av (zPX D cl tys ws sz)) (va_Qv post (zAt D cl tys (va_A ws sz)) (va_A ws sz)) (zXC D cl tys px (va_A ws sz)) rm.cells rm.slots (va_A ws sz)
theorem z_ofXv {y : MethodName} {w : List Cond} {rm : Room} {av : List Value} {sz maxL : Nat} {post : va_W → Prop} {px : String → va_W → Prop} {ret : Option FieldType} (hy : plainName y.cls = true) (hw : w = Cond.code y cc maxL ret :: zG) (hn : (lg_sl av).length ≤ maxL)
    (body : ∀ (p : Program) (e : Env) (s : State) (m : MethodId) (below : List Frame) (meth : Method) (c : Code) (A : Nat → Prop) (ls : Array Slot), p.tables.exec = Jvm.exec → c.code = cc → meth.sig.returnType = ret → c.maxLocals = maxL → s.vm.findClass y.cls = some m.cls → (∀ q ∈ zG, q.before av.toArray s = true) → meth.locks = false → meth.name = y.name → (∀ q, s.heap.size ≤ q → A q) → va_P D cl ws s.heap → va_K D cl tys s → va_D A ws → va_S A s.heap s.heap [] → lv_has ls maxL (lv_args 0 av) → zZ A s s.heap → (∀ x ∈ c.exceptionTable.toList, False) →
      W p l e rm s m av.toArray below meth c s.heap [] 0 0 (vx_MQ below (va_Qv post (zAt D cl tys A) A) (zXC D cl tys px A) av.toArray s rm.cells rm.slots A) (F0 m 0 ls [])) : zXv l y w rm av D cl tys ws sz post px := by
  refine vx_ofW (cc := cc) (maxL := maxL) (ret := ret) hy hw ?_
  intro p e s m args below meth c s₁ B hml hno hv
  obtain ⟨rfl, ⟨hsz, hP, hK, hD0⟩, hZ⟩ := hv
  have hD := hD0.self (sz := sz)
  have hl := lv_entry av (n := maxL) hn
  rw [lg_entry_eq]
  generalize (lg_sl av ++ List.replicate (maxL - (lg_sl av).length) Slot.unset).toArray = ls at hl ⊢
  exact body p e s m below meth c (va_A ws sz) ls B.exec B.bytes B.returns hml (findClass_of_methodNamed B.named) (fun q h => atoms_spec (ws := w) B.pre q (by rw [hw]; exact List.mem_cons_of_mem _ h)) B.notSynchronized (name_of_methodNamed B.named B.method).1 (fun q h => Or.inr (by omega)) hP hK hD va_S.rf hl hZ hno
theorem z_XVv {post : va_W → Prop} {px : String → va_W → Prop} {y : MethodName} {bytes : ByteArray} {maxL nL n index b : Nat} {ret : Option FieldType} {w Ts : List Cond} {rm : Room} {own C : String} {T : u_T} {N : Nat} {fs As : List Value}
    (S : CallFix p m c cc nL s args Ts own) (hZ : zZ A s s.heap) (hK : va_K D cl tys s) (hP : va_P D cl ws H) (hD : va_D A ws) (hS : va_S A s.heap H locs) (hA : ∀ q, s.heap.size ≤ q → A q) (hM : zXv l y w rm (.ref b :: As) D cl tys wc H.size post px) (cw : CallW R s args own C index y bytes maxL ret w rm rm.cells rm.slots n)
    (q0 ci : Nat) (hcq : cl[ci]? = some (C, T, N)) (he : ws[q0]? = some (b, .inr (ci, fs))) (isC isR : List Nat) (hC1 : isC.filterMap (fun i => ws[i]?) = wc) (hC : isC.map (fun i => ws[i]?) = wc.map some) (hR : isR.map (fun i => ws[i]?) = wr.map some) (hn : va_nd isC = true ∧ va_nd isR = true ∧ ∀ i ∈ isR, i ∉ isC)
    (hAs : As.length = n) (hsz : ls.size = nL) (hst : st0 = As.reverse ++ .ref b :: rest) (hrm : (rest.map fun v => v.category).sum ≤ 8) (hdg : decode cc pc = .ok (.invokevirtual index, 3)) (hf : cells + rm.cells ≤ R.cells ∧ slots + rm.slots ≤ R.slots)
    (kx : ∀ (E : String) (ce : Cell) (q9 : Addr) (u : va_W) (H1 : Heap) (locs1 : List Loc), px E u → va_P D cl (wr ++ u) H1 → va_D A (wr ++ u) → va_S A s.heap H1 locs1 → H1[q9]? = some ce → ce.vm = .none → s.vm.findClass E = some ce.cls → vx_W p l e R s m args below meth c H1 locs1 (cells + rm.cells) (slots + rm.slots) Q (F0 m pc ls rest) q9)
    (kk : ∀ (u : va_W) (H1 : Heap) (locs1 : List Loc), post u → va_P D cl (wr ++ u) H1 → va_D A (wr ++ u) → va_S A s.heap H1 locs1 → W p l e R s m args below meth c H1 locs1 (cells + rm.cells) (slots + rm.slots) Q (F0 m (pc + 3) ls (rest))) : W p l e R s m args below meth c H locs cells slots Q (F0 m pc ls st0) := by
  have hPc : va_P D cl wc H := hP.sub isC hC1
  have hDc : va_D A wc := hD.sub isC hn.1 hC
  have hFc := va_free hD hS hA isC hC
  refine vx_callv (vx_runV (As := As) (rest := rest) S hM cw ⟨z_blindX, va_recv hK hP hcq he, fun U hU hW => ⟨rfl, ⟨by rw [hU], by rw [hU]; exact hPc, va_K.moved hW.alike hK, hDc.weaken (fun _ _ _ _ => trivial)⟩, by rw [hU]; exact zZ_warm hW hZ hS hFc⟩⟩ rfl hAs hsz hst (lv_room hrm) hdg hf) hS (fun q _ h => hFc q h) hFc (fun q _ h => hFc q h) (fun E ce q9 u t H1 locs1 ht hvm hpx hB hz1 hk1 hS1 h1 h2 h3 => ?_) (fun u t H1 locs1 ht hvm hw hB hz1 hk1 hS1 => ?_)
  · obtain ⟨hE, hP1, hK1, hD1⟩ := hB
    subst hE
    rw [ht] at hP1
    obtain ⟨hP2, hD2⟩ := va_join (wr := wr) (w1 := u.2) hP hD isC isR hC hR hn.2.1 hn.2.2 hk1 hFc hP1 hD1
    exact kx _ ce q9 u.2 H1 locs1 hpx hP2 hD2 hS1 h1 h2 h3
  · obtain ⟨hP1, hK1, hD1⟩ := hB
    rw [ht] at hP1
    obtain ⟨hP2, hD2⟩ := va_join (wr := wr) (w1 := u) hP hD isC isR hC hR hn.2.1 hn.2.2 hk1 hFc hP1 hD1
    exact kk u H1 locs1 hw hP2 hD2 hS1
/-- a method of the law's, with a table, that lets nothing out -/
abbrev zYi (l : Launch) (y : MethodName) (w : List Cond) (rm : Room) (av : List Value) (D : va_G) (cl : List vw_C) (tys : List (ClassId × FieldType)) (ws : va_W) (sz : Nat) (post : Int32 → va_W → Prop) : Prop := Met l y w rm (va_Pc av (zPX D cl tys ws sz)) (va_Qi post (zAt D cl tys (va_A ws sz)) (va_A ws sz)) rm.cells rm.slots (va_A ws sz)
theorem z_ofY {y : MethodName} {w : List Cond} {rm : Room} {av : List Value} {sz maxL : Nat} {post : Int32 → va_W → Prop} {ret : Option FieldType} {hh : List (Nat × Nat × Nat × Nat)} (hy : plainName y.cls = true) (hw : w = Cond.codeWith y cc maxL ret hh :: zG) (hn : (lg_sl av).length ≤ maxL)
    (body : ∀ (p : Program) (e : Env) (s : State) (m : MethodId) (below : List Frame) (meth : Method) (c : Code) (A : Nat → Prop) (ls : Array Slot), p.tables.exec = Jvm.exec → c.code = cc → meth.sig.returnType = ret → c.maxLocals = maxL → s.vm.findClass y.cls = some m.cls → (∀ q ∈ zG, q.before av.toArray s = true) → meth.locks = false → (∀ q, s.heap.size ≤ q → A q) → va_P D cl ws s.heap → va_K D cl tys s → va_D A ws → va_S A s.heap s.heap [] → lv_has ls maxL (lv_args 0 av) → zZ A s s.heap → c.exceptionTable.toList = tableOf hh →
      W p l e rm s m av.toArray below meth c s.heap [] 0 0 (MQ below (va_Qi post (zAt D cl tys A) A) av.toArray s rm.cells rm.slots A) (F0 m 0 ls [])) : zYi l y w rm av D cl tys ws sz post := by
  refine va_MetW (cc := cc) (maxL := maxL) (ret := ret) (hh := hh) hy hw ?_
  intro p e s m args below meth c s₁ B hml hv
  obtain ⟨rfl, ⟨hsz, hP, hK, hD0⟩, hZ⟩ := hv
  have hD := hD0.self (sz := sz)
  have hl := lv_entry av (n := maxL) hn
  have hTab : c.exceptionTable.toList = tableOf hh := vx_table (x := y) B (atoms_spec (ws := w) B.pre _ (by rw [hw]; exact List.mem_cons_self))
  rw [lg_entry_eq]
  generalize (lg_sl av ++ List.replicate (maxL - (lg_sl av).length) Slot.unset).toArray = ls at hl ⊢
  exact body p e s m below meth c (va_A ws sz) ls B.exec B.bytes B.returns hml (findClass_of_methodNamed B.named) (fun q h => atoms_spec (ws := w) B.pre q (by rw [hw]; exact List.mem_cons_of_mem _ h)) B.notSynchronized (fun q h => Or.inr (by omega)) hP hK hD va_S.rf hl hZ hTab
theorem zcwY {own : String} {index : Nat} {y : MethodName} {bytes : ByteArray} {maxL : Nat} {ret : Option FieldType} {hh : List (Nat × Nat × Nat × Nat)} {rm : Room} (n : Nat) (htz : ∀ w ∈ zG, w.before args s = true) (hc : Cond.codeWith y bytes maxL ret hh ∈ zG) (hl : Cond.methodLink own index y ∈ zG) (hs : Cond.static y ∈ zG) (hini : Cond.initialized y.cls ∈ zG)
    (hd : y.cls ≠ "java/lang/invoke/MethodHandle" ∧ y.cls ≠ "java/lang/invoke/VarHandle" ∧ (parseMethodDescriptor y.desc).map (fun d => d.parameters.length) = some n) (hR : rm.frames + 1 ≤ R.frames ∧ 8 + (maxL + 11) + rm.locals ≤ R.locals) : vx_CSW R s args own index y bytes maxL ret hh (Cond.codeWith y bytes maxL ret hh :: zG) rm rm.cells rm.slots n :=
  vx_cwSW n htz (goodIn_app (fun w hw => by
    simp only [List.mem_cons, List.not_mem_nil, or_false] at hw
    rcases hw with rfl | rfl | rfl
    · exact ⟨hl, good_of_word (List.mem_filter.mp hl).2⟩
    · exact ⟨hs, good_of_word (List.mem_filter.mp hs).2⟩
    · exact ⟨hini, good_of_word (List.mem_filter.mp hini).2⟩) (zG_good hc)) rfl rfl rfl hd hR
theorem z_SY {post : Int32 → va_W → Prop} {y : MethodName} {bytes : ByteArray} {maxL nL n index : Nat} {ret : Option FieldType} {hh : List (Nat × Nat × Nat × Nat)} {w Ts : List Cond} {rm : Room} {own : String} {As : List Value}
    (S : CallFix p m c cc nL s args Ts own) (hZ : zZ A s s.heap) (hK : va_K D cl tys s) (hP : va_P D cl ws H) (hD : va_D A ws) (hS : va_S A s.heap H locs) (hA : ∀ q, s.heap.size ≤ q → A q) (hM : zYi l y w rm As D cl tys wc H.size post) (cw : vx_CSW R s args own index y bytes maxL ret hh w rm rm.cells rm.slots n)
    (isC isR : List Nat) (hC1 : isC.filterMap (fun i => ws[i]?) = wc) (hC : isC.map (fun i => ws[i]?) = wc.map some) (hR : isR.map (fun i => ws[i]?) = wr.map some) (hn : va_nd isC = true ∧ va_nd isR = true ∧ ∀ i ∈ isR, i ∉ isC)
    (hAs : As.length = n) (hsz : ls.size = nL) (hst : st0 = As.reverse ++ rest) (hrm : (rest.map fun v => v.category).sum ≤ 8) (hdg : decode cc pc = .ok (.invokestatic index, 3)) (hf : cells + rm.cells ≤ R.cells ∧ slots + rm.slots ≤ R.slots)
    (kk : ∀ (r : Int32) (u : va_W) (H1 : Heap) (locs1 : List Loc), post r u → va_P D cl (wr ++ u) H1 → va_D A (wr ++ u) → va_S A s.heap H1 locs1 → W p l e R s m args below meth c H1 locs1 (cells + rm.cells) (slots + rm.slots) Q (F0 m (pc + 3) ls (.int r :: rest))) : W p l e R s m args below meth c H locs cells slots Q (F0 m pc ls st0) := by
  have hFc := va_free hD hS hA isC hC
  exact z_ci hP hD hS hA isC isR hC1 hC hR hn (fun hPc hDc => vx_runSW (As := As) (rest := rest) S hM cw ⟨z_blindX, fun U hU hW => ⟨rfl, ⟨by rw [hU], by rw [hU]; exact hPc, va_K.moved hW.alike hK, hDc⟩, by rw [hU]; exact zZ_warm hW hZ hS hFc⟩⟩ rfl hAs hsz hst (lv_room hrm) hdg hf) kk
end ZX
theorem zat_91 : (∀ w ∈ (vx_atS zR_S 91 "java/lang/IndexOutOfBoundsException" ["java/lang/RuntimeException", "java/lang/Exception"]).filter goodWord, w ∈ zG) ∧ (∀ w ∈ (vx_atS zR_S 91 "java/lang/IndexOutOfBoundsException" ["java/lang/RuntimeException", "java/lang/Exception"]).filter (fun w => !goodWord w), w ∈ zNs) ∧ (∀ (k : Nat) (C : String), C = "java/lang/IndexOutOfBoundsException" → True = True → ∀ w ∈ Cond.classLink zR_S k C :: Cond.initialized C :: vx_atS zR_S 91 "java/lang/IndexOutOfBoundsException" ["java/lang/RuntimeException", "java/lang/Exception"], vx_ot w = true) := by
  refine ⟨fun w hw => zG_mem ((by decide +kernel : ∀ w ∈ (vx_atS zR_S 91 "java/lang/IndexOutOfBoundsException" ["java/lang/RuntimeException", "java/lang/Exception"]).filter goodWord, w ∈ lw_tbl) w hw) (List.mem_filter.mp hw).2, by decide +kernel, fun k C hC _ w hw => ?_⟩
  subst hC
  rcases List.mem_cons.mp hw with rfl | hw
  · rfl
  rcases List.mem_cons.mp hw with rfl | hw
  · rfl
  · exact (by decide +kernel : ∀ w ∈ vx_atS zR_S 91 "java/lang/IndexOutOfBoundsException" ["java/lang/RuntimeException", "java/lang/Exception"], vx_ot w = true) w hw
theorem zat_38 : (∀ w ∈ (vx_atS zR_S 38 "java/lang/IllegalArgumentException" ["java/lang/RuntimeException", "java/lang/Exception"]).filter goodWord, w ∈ zG) ∧ (∀ w ∈ (vx_atS zR_S 38 "java/lang/IllegalArgumentException" ["java/lang/RuntimeException", "java/lang/Exception"]).filter (fun w => !goodWord w), w ∈ zNs) ∧ (∀ (k : Nat) (C : String), C = "java/lang/IllegalArgumentException" → True = True → ∀ w ∈ Cond.classLink zR_S k C :: Cond.initialized C :: vx_atS zR_S 38 "java/lang/IllegalArgumentException" ["java/lang/RuntimeException", "java/lang/Exception"], vx_ot w = true) := by
  refine ⟨fun w hw => zG_mem ((by decide +kernel : ∀ w ∈ (vx_atS zR_S 38 "java/lang/IllegalArgumentException" ["java/lang/RuntimeException", "java/lang/Exception"]).filter goodWord, w ∈ lw_tbl) w hw) (List.mem_filter.mp hw).2, by decide +kernel, fun k C hC _ w hw => ?_⟩
  subst hC
  rcases List.mem_cons.mp hw with rfl | hw
  · rfl
  rcases List.mem_cons.mp hw with rfl | hw
  · rfl
  · exact (by decide +kernel : ∀ w ∈ vx_atS zR_S 38 "java/lang/IllegalArgumentException" ["java/lang/RuntimeException", "java/lang/Exception"], vx_ot w = true) w hw
theorem zat_123 : (∀ w ∈ (vx_atS zR_S 123 "java/lang/IllegalStateException" ["java/lang/RuntimeException", "java/lang/Exception"]).filter goodWord, w ∈ zG) ∧ (∀ w ∈ (vx_atS zR_S 123 "java/lang/IllegalStateException" ["java/lang/RuntimeException", "java/lang/Exception"]).filter (fun w => !goodWord w), w ∈ zNs) ∧ (∀ (k : Nat) (C : String), C = "java/lang/IllegalStateException" → True = True → ∀ w ∈ Cond.classLink zR_S k C :: Cond.initialized C :: vx_atS zR_S 123 "java/lang/IllegalStateException" ["java/lang/RuntimeException", "java/lang/Exception"], vx_ot w = true) := by
  refine ⟨fun w hw => zG_mem ((by decide +kernel : ∀ w ∈ (vx_atS zR_S 123 "java/lang/IllegalStateException" ["java/lang/RuntimeException", "java/lang/Exception"]).filter goodWord, w ∈ lw_tbl) w hw) (List.mem_filter.mp hw).2, by decide +kernel, fun k C hC _ w hw => ?_⟩
  subst hC
  rcases List.mem_cons.mp hw with rfl | hw
  · rfl
  rcases List.mem_cons.mp hw with rfl | hw
  · rfl
  · exact (by decide +kernel : ∀ w ∈ vx_atS zR_S 123 "java/lang/IllegalStateException" ["java/lang/RuntimeException", "java/lang/Exception"], vx_ot w = true) w hw
def zw_L_value : List Cond := .codeWith zy_L_value zc_L_value 8 (some .int) [(0, 21, 24, 13), (0, 21, 28, 15)] :: zG
def zw_L_faults : List Cond := .codeWith zy_L_faults zc_L_faults 5 (some .int) [(0, 17, 20, 13), (0, 17, 24, 15)] :: zG
def zw_L_run : List Cond := .codeWith zy_L_run zc_L_run 7 (some .int) [(0, 13, 16, 15)] :: zG
def zw_L_answer : List Cond := .codeWith zy_L_answer zc_L_answer 3 (some .int) [(0, 7, 10, 29)] :: zG
def zw_L_ticks : List Cond := .codeWith zy_L_ticks zc_L_ticks 4 (some .int) [(0, 9, 12, 29)] :: zG
def zw_L_worked : List Cond := .codeWith zy_L_worked zc_L_worked 4 (some .int) [(0, 9, 12, 29), (0, 9, 15, 13)] :: zG
def zw_L_done : List Cond := .codeWith zy_L_done zc_L_done 4 (some .int) [(0, 9, 12, 29), (0, 9, 15, 13)] :: zG
def zw_L_by : List Cond := .codeWith zy_L_by zc_L_by 4 (some .int) [(0, 9, 12, 29), (0, 9, 15, 13)] :: zG
def zw_L_failed : List Cond := .codeWith zy_L_failed zc_L_failed 4 (some .int) [(0, 9, 12, 29), (0, 9, 15, 13)] :: zG
def zw_L_at : List Cond := .codeWith zy_L_at zc_L_at 4 (some .int) [(0, 9, 12, 29), (0, 9, 15, 13)] :: zG
